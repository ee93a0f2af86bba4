/** Balls that several tests tell; where their ladies go was worked out by hand. */
final class Balls {
    /**
     * Three ladies in a row of four rooms. Dances 0 to 5:
     * lady 0 is in 0 1 2 3 3 3, lady 1 (too wide for the last door) in 3 throughout, lady 2 in 2 2 1 0 0 0.
     */
    static final String ROW = "ball rooms 4 dances 5 law 0 odds 3;"
        + "door 0 to 1 wide 5;door 1 to 2 wide 3;door 2 to 3 wide 2;"
        + "lady in 0 wide 2;lady in 3 wide 3;lady in 2 wide 1;"
        + "minister under 0 seats 5;minister under 1 seats 8;minister under 2 seats 4;"
        + "bid 0 to 3 at 0;bid 2 to 0 at 1;bid 1 to 0 at 0;";

    /**
     * A star around room 0, all doors wide, four ladies. Dances 0 to 4:
     * lady 0 is in 1 0 0 0 0, lady 1 in 2 0 2 2 2, lady 2 in 2 2 2 0 3, lady 3 in 3 3 3 3 3.
     */
    static final String STAR = "ball rooms 4 dances 4 law 0 odds 5;"
        + "door 0 to 1 wide 9;door 2 to 0 wide 9;door 0 to 3 wide 9;"
        + "lady in 1 wide 4;lady in 2 wide 4;lady in 2 wide 3;lady in 3 wide 9;"
        + "bid 0 to 0 at 0;bid 1 to 0 at 0;bid 1 to 2 at 1;bid 2 to 3 at 2;";

    /** No doors, no ladies, no ministers. */
    static final String BARE = "ball rooms 2 dances 3 law 0 odds 0;";

    /** As much of everything as there can be: 8 rooms, 14 dances, 12 doors, 6 ladies, 8 ministers, 10 bids. */
    static final String FULL = "ball rooms 8 dances 14 law 3 odds 10;"
        + "door 0 to 1 wide 9;door 1 to 2 wide 9;door 2 to 3 wide 9;door 3 to 4 wide 9;door 4 to 5 wide 9;door 5 to 6 wide 9;"
        + "door 6 to 7 wide 9;door 0 to 7 wide 1;door 0 to 2 wide 2;door 7 to 5 wide 3;door 2 to 4 wide 4;door 7 to 3 wide 8;"
        + "lady in 0 wide 1;lady in 7 wide 2;lady in 0 wide 3;lady in 7 wide 4;lady in 3 wide 8;lady in 7 wide 9;"
        + "minister under 0 seats 20;minister under 0 seats 1;minister under 1 seats 20;minister under 2 seats 5;"
        + "minister under 3 seats 7;minister under 4 seats 1;minister under 5 seats 2;minister under 5 seats 20;"
        + "bid 0 to 7 at 0;bid 0 to 0 at 13;bid 1 to 0 at 0;bid 1 to 7 at 13;bid 2 to 7 at 1;"
        + "bid 3 to 0 at 2;bid 4 to 0 at 3;bid 5 to 0 at 0;bid 5 to 7 at 13;bid 5 to 3 at 12;";

    /** As little as a ball with a lady can have. */
    static final String SMALL = "ball rooms 1 dances 1 law 0 odds 0;lady in 0 wide 9;";

    /**
     * Eight rooms in a row, doors 5 wide, fourteen dances. Lady 0 (5 wide) goes from 0 to 7, lady 1 (6 wide, too wide by
     * one) would, lady 2 stays in 7, lady 3 (5 wide) goes from 7 to 0 and back again, a door each dance.
     */
    static final String LONG = "ball rooms 8 dances 14 law 0 odds 0;"
        + "door 0 to 1 wide 5;door 2 to 1 wide 5;door 2 to 3 wide 5;door 4 to 3 wide 5;door 4 to 5 wide 5;door 5 to 6 wide 5;"
        + "door 7 to 6 wide 5;lady in 0 wide 5;lady in 0 wide 6;lady in 7 wide 4;lady in 7 wide 5;"
        + "bid 0 to 7 at 0;bid 1 to 7 at 0;bid 3 to 7 at 7;bid 3 to 0 at 0;";

    private Balls() {
    }
}

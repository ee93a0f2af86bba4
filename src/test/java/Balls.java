/** Balls that several tests tell; where their ladies go was worked out by hand. */
final class Balls {
    /**
     * Three ladies in a row of four rooms. Dances 0 to 5:
     * lady 0 is in 0 1 2 3 3 3, lady 1 (too wide for the last door) in 3 throughout, lady 2 in 2 2 1 0 0 0.
     */
    static final String ROW = "ball rooms 4 dances 5 law 0 odds 3;"
        + "door 0 to 1 wide 5;door 1 to 2 wide 3;door 2 to 3 wide 2;"
        + "lady in 0 wide 2;lady in 3 wide 3;lady in 2 wide 1;"
        + "minister under 0 seats 5;minister under 1 seats 8;minister under 2 seats 4;"
        + "bid 0 to 3 at 0;bid 2 to 0 at 1;bid 1 to 0 at 0;";

    /**
     * A star around room 0, all doors wide, four ladies. Dances 0 to 4:
     * lady 0 is in 1 0 0 0 0, lady 1 in 2 0 2 2 2, lady 2 in 2 2 2 0 3, lady 3 in 3 3 3 3 3.
     */
    static final String STAR = "ball rooms 4 dances 4 law 0 odds 5;"
        + "door 0 to 1 wide 9;door 2 to 0 wide 9;door 0 to 3 wide 9;"
        + "lady in 1 wide 4;lady in 2 wide 4;lady in 2 wide 3;lady in 3 wide 9;"
        + "bid 0 to 0 at 0;bid 1 to 0 at 0;bid 1 to 2 at 1;bid 2 to 3 at 2;";

    /** No doors, no ladies, no ministers. */
    static final String BARE = "ball rooms 2 dances 3 law 0 odds 0;";

    private Balls() {
    }
}

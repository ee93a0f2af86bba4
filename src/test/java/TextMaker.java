import java.util.Random;
import java.util.regex.Pattern;

/** Texts by chance: balls that hold, and some that are spoilt. */
final class TextMaker {
    private final Random chance;
    private final StringBuilder text = new StringBuilder();

    private TextMaker(Random chance) {
        this.chance = chance;
    }

    /** Of at most 1,000 bytes. */
    static String text(Random chance) {
        String whole = new TextMaker(chance).ball();
        if (chance.nextInt(4) == 0) {
            whole = new TextMaker(chance).spoilt(whole);
        }
        return whole.substring(0, Math.min(1000, whole.length()));
    }

    private int below(int n) {
        return chance.nextInt(n);
    }

    private void say(String word) {
        boolean glued = text.length() == 0 || below(8) == 0 && isLetter(text.charAt(text.length() - 1)) != isLetter(word.charAt(0));
        text.append(glued ? "" : below(12) == 0 ? "\n" : " ").append(word);
    }

    private static boolean isLetter(char sign) {
        return sign >= 'a' && sign <= 'z';
    }

    private void line(Object... parts) {
        for (Object part : parts) {
            say(below(40) == 0 && part instanceof Integer ? "0" + part : part.toString());
        }
        text.append(";");
    }

    /** Some balls are crowded (few rooms, wide doors), so that much happens in them. */
    private String ball() {
        boolean crowded = below(2) == 0;
        int rooms = crowded ? 2 + below(4) : 1 + below(8);
        int dances = below(3) == 0 ? 1 + below(14) : 2 + below(6);
        int ladies = below(15) == 0 ? below(2) : 2 + below(5);
        line("ball", "rooms", rooms, "dances", dances, "law", below(4), "odds", below(11));
        boolean joined = below(4) > 0;
        int doors = rooms == 1 ? 0 : joined ? Math.min(12, rooms - 1 + below(5)) : below(rooms + 1);
        for (int i = 0; i < doors; i++) {
            int room = joined && i + 1 < rooms ? i + 1 : below(rooms);
            int other = joined && i + 1 < rooms ? below(room) : (room + 1 + below(rooms - 1)) % rooms;
            line("door", room, "to", other, "wide", crowded ? 5 + below(5) : 1 + below(9));
        }
        int widest = crowded ? 6 : 9;
        for (int i = 0; i < ladies; i++) {
            line("lady", "in", below(rooms), "wide", 1 + below(widest));
        }
        for (int i = ladies == 0 ? 0 : below(9); i > 0; i--) {
            line("minister", "under", below(ladies), "seats", 1 + below(below(2) == 0 ? 20 : 3));
        }
        for (int i = ladies == 0 ? 0 : below(11); i > 0; i--) {
            line("bid", below(ladies), "to", below(rooms), "at", below(below(5) == 0 ? 14 : dances));
        }
        return text.toString();
    }

    private String spoilt(String whole) {
        switch (below(3)) {
            case 0: return offBounds(whole);
            case 1: return tooMany(whole);
            default: return patched(whole);
        }
    }

    /** One number or more is a neighbour of a bound. */
    private String offBounds(String whole) {
        String[] numbers = {"0", "1", "3", "4", "5", "6", "7", "8", "9", "10", "11", "13", "14", "15", "20", "21", "1000000"};
        return Pattern.compile("[0-9]+").matcher(whole)
            .replaceAll(old -> below(8) == 0 ? numbers[below(numbers.length)] : old.group());
    }

    /** One line stands so often that there are too many of its kind, or nearly. */
    private String tooMany(String whole) {
        String[] lines = {"door 0 to 1 wide 1;", "lady in 0 wide 1;", "minister under 0 seats 1;", "bid 0 to 0 at 0;"};
        int end = whole.indexOf(';') + 1;
        return whole.substring(0, end) + lines[1].repeat(below(2)) + lines[below(4)].repeat(below(14)) + whole.substring(end);
    }

    private String patched(String whole) {
        String[] pieces = {"", "", ";", " ", "\n", "1", "0", "9", "15", "a", "ball ", "door 0 to 1 wide 1;", "lady in 0 wide 1;",
            "minister under 0 seats 1;", "bid 0 to 0 at 0;", "-", "lady", "to", "4294967297", "\u0080", "Z", "14", "z", "`", "{", "/", ":", "\t", "\u0000"};
        int from = below(whole.length() + 1);
        int to = Math.min(whole.length(), from + below(4));
        return whole.substring(0, from) + pieces[below(pieces.length)] + whole.substring(below(10) == 0 ? whole.length() : to);
    }
}

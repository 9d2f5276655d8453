import java.util.Random;

/** Numbers and texts by a fixed seed. */
final class Drawn {
    private static final String NOISE = "sdpg;;  0123456789999x";

    private final Random random;

    Drawn(int seed) {
        this.random = new Random(seed);
    }

    int any() {
        return random.nextInt();
    }

    int upTo(int most) {
        return random.nextInt(most + 1);
    }

    int between(int least, int most) {
        return least + upTo(most - least);
    }

    boolean oneOf(int many) {
        return random.nextInt(many) == 0;
    }

    /** Within the bounds, now and then at them or next to them. */
    int number(int least, int most) {
        switch (upTo(39)) {
            case 0: return least - 1;
            case 1: return most + 1;
            case 2: return least;
            case 3: return most;
            default: return between(least, most);
        }
    }

    /** A shore without a fault, of this many depths, persons and goods at most. */
    String shoreText(int depths, int persons, int goods) {
        StringBuilder s = new StringBuilder();
        s.append('s').append(between(1, 99)).append(' ').append(between(1, 60)).append(';');
        int[] left = {upTo(depths), upTo(persons), upTo(goods)};
        while (left[0] + left[1] + left[2] > 0) {
            int kind = upTo(2);
            if (left[kind] > 0) {
                left[kind]--;
                s.append(clause(kind));
            }
        }
        return s.toString();
    }

    private String clause(int kind) {
        switch (kind) {
            case 0: return "d" + (oneOf(2) ? between(1, 12) : between(1, 200)) + ";";
            case 1: return "p" + upTo(99) + " " + between(20, 150) + ";";
            default: return "g" + between(1, 999) + " " + (oneOf(2) ? upTo(20) : upTo(100)) + " " + upTo(9999) + ";";
        }
    }

    /** The text with one letter changed, put in or left out, or with its end cut off. */
    String spoiled(String text) {
        StringBuilder s = new StringBuilder(text);
        int at = upTo(s.length() - 1);
        char noise = NOISE.charAt(upTo(NOISE.length() - 1));
        switch (upTo(3)) {
            case 0: s.setCharAt(at, noise); break;
            case 1: s.insert(at, noise); break;
            case 2: s.deleteCharAt(at); break;
            default: s.setLength(at + 1); break;
        }
        return s.toString();
    }
}

/**
 * Each call with numbers at, next to and far beyond every bound that the document names, in objects of several states,
 * on the class and on the plain model: no call throws, and all answers are alike.
 */
public final class ExtremesTest {
    private static final int[] FAR = {
        Integer.MIN_VALUE, Integer.MIN_VALUE + 1, -1000000004, -10000, -200, -199, -2, -1, 0, 1, 2, 3, 4, 5, 6, 7, 8, 9, 10,
        13, 14, 15, 30, 31, 60, 61, 100, 101, 199, 200, 240, 255, 256, 300, 301, 9999, 10000, 65536, 1000000000,
        Integer.MAX_VALUE - 1, Integer.MAX_VALUE};
    private static final int[] FEW = {Integer.MIN_VALUE, -200, -199, -1, 0, 1, 2, 7, 199, 200, 9999, 10000, Integer.MAX_VALUE};
    private static final int STATES = 6;
    private static final String[] OF_ONE = {
        "feed", "told", "depth", "year", "up", "open", "take", "drift", "wouldOpen", "yearsLeft", "stays", "seed", "keep",
        "goBack"};
    private static final String[] OF_TWO = {"person", "good", "down", "leave", "when", "letters", "storm", "write"};
    private static final String[] OF_THREE = {"both", "find"};
    private static final String FULL_SHORE = "s5 7;d200;d1;d7;d4;p0 150;p99 150;p60 60;p10 20;p0 1;p98 99;p20 90;"
            + "g1 0 0;g999 50 9999;g963 34 9999;g100 51 0;g2 100 0;g500 10 20;";

    private Pair pair;
    private int state;

    public static void main(String[] args) {
        for (int state = 0; state < STATES; state++) {
            new ExtremesTest().play(state);
        }
        Check.end();
    }

    private void play(int which) {
        state = which;
        pair = begun();
        for (String name : OF_ONE) {
            for (int a : FAR) {
                call(name, a);
            }
        }
        for (String name : OF_TWO) {
            for (int a : FAR) {
                for (int b : FAR) {
                    call(name, a, b);
                }
            }
        }
        for (int a : FEW) {
            for (int b : FEW) {
                for (int c : FEW) {
                    for (String name : OF_THREE) {
                        call(name, a, b, c);
                    }
                    for (int older : FEW) {
                        call("meet", a, b, c, older, a & 1);
                    }
                }
            }
        }
    }

    /** An object is made anew ahead of its 512th call. */
    private void call(String name, int... a) {
        if (pair.calls > 480) {
            pair = begun();
        }
        pair.same(name, a);
    }

    private Pair begun() {
        Pair p = new Pair("state " + state);
        if (state > 0) {
            p.tell(state == 1 ? "s1 1;" : state == 2 ? "s1 1;d1;p0 1;g1 0 0;" : FULL_SHORE);
        }
        if (state > 3) {
            p.same("down", 0, 0);
            p.same("down", 3, 3);
            p.same("year", 60);
            p.same("up", 3);
            p.same("keep", 1);
            p.same("take", 1);
            p.same("seed", 2147483647);
            p.same("drift", 60);
        }
        if (state > 4) {
            for (int i = 0; i < 15; i++) {
                p.same("write", i % 7, 10);
                p.same("find", 1, 0, i);
            }
        }
        return p;
    }
}

/** What all tests share: counting wrong answers, and telling a shore by a text. */
final class Check {
    private static int wrong = 0;
    private static int calls = 0;

    private Check() {
    }

    static void due(String call, long got, long want) {
        calls++;
        if (got != want) {
            wrong++;
            System.out.println(call + " answered " + got + ", due is " + want);
        }
    }

    static void feedAll(ThreeBelow x, String text) {
        for (int i = 0; i < text.length(); i++) {
            x.feed(text.charAt(i));
        }
    }

    static ThreeBelow shoreOf(String text) {
        ThreeBelow x = new ThreeBelow();
        feedAll(x, text);
        int answer = x.shore();
        if (answer < 0) {
            wrong++;
            System.out.println("shore of \"" + text + "\" answered " + answer);
        }
        return x;
    }

    /** The text has this fault at this letter, and a shore was not begun by it. */
    static void faultOf(String text, int number, int letter) {
        ThreeBelow x = new ThreeBelow();
        feedAll(x, text);
        due("shore of \"" + text + "\"", x.shore(), -10 - number);
        due("fault of \"" + text + "\"", x.fault(), letter);
        due("D behind the fault of \"" + text + "\"", x.told(0), 0);
    }

    static void alike(String call, String got, String want) {
        calls++;
        if (!got.equals(want)) {
            wrong++;
            System.out.println(call + " shows\n  " + got + "\ndue is\n  " + want);
        }
    }

    static boolean hasWrong() {
        return wrong > 0;
    }

    static void end() {
        System.out.println(calls + " answers, " + wrong + " of them not as due");
        if (wrong > 0) {
            System.exit(1);
        }
    }
}

/**
 * Runs of 512 calls on one object that go far in one direction, which calls drawn of all kinds hardly ever do,
 * on the class and on the plain model: all answers are alike.
 */
public final class LongRunsTest {
    private static final int RUNS = 30;
    private static final String SMALL_SHORE = "s9 20;d7;d3;p20 150;p30 70;g99 5 9999;g40 60 0;";

    private final Drawn drawn;
    private final Pair pair;

    private LongRunsTest(String title, int run) {
        this.drawn = new Drawn(run);
        this.pair = new Pair(title + ", run " + run);
    }

    public static void main(String[] args) {
        for (int run = 0; run < RUNS && !Check.hasWrong(); run++) {
            new LongRunsTest("to the last year", run).toTheLastYear();
            new LongRunsTest("shore behind shore", run).shoreBehindShore();
            new LongRunsTest("texts to the last letter", run).textsToTheLastLetter();
            new LongRunsTest("done and undone", run).doneAndUndone();
            new LongRunsTest("adrift", run).adrift();
            new LongRunsTest("found", run).found();
            new LongRunsTest("written", run).written();
        }
        Check.end();
    }

    private int person() {
        return drawn.upTo(Math.max(0, pair.plain.told(3) - 1));
    }

    private int depth() {
        return drawn.upTo(Math.max(0, pair.plain.told(2) - 1));
    }

    private int good() {
        return drawn.upTo(Math.max(0, pair.plain.told(4) - 1));
    }

    private void lookAtAll() {
        for (int what = 6; what <= 10; what++) {
            pair.same("told", what);
        }
        for (int p = 0; p < pair.plain.told(3); p++) {
            pair.same("person", p, 0);
            pair.same("person", p, 2);
            pair.same("person", p, 3);
            pair.same("person", p, 4);
        }
        for (int g = 0; g < pair.plain.told(4); g++) {
            pair.same("good", g, 0);
        }
    }

    /** YEARS come above 90000 by 301 calls; behind that the boxes are as full as can be. */
    private void toTheLastYear() {
        pair.tell(SMALL_SHORE);
        pair.same("down", 0, drawn.upTo(1));
        while (pair.plain.told(6) < 90000) {
            pair.same("year", drawn.oneOf(40) ? drawn.between(290, 300) : 300);
        }
        Check.due("some calls are left", pair.isSpent() ? 0 : 1, 1);
        while (!pair.isSpent()) {
            farInTime();
        }
    }

    private void farInTime() {
        switch (drawn.upTo(9)) {
            case 0: pair.same("year", drawn.between(1, 300)); break;
            case 1: pair.same("drift", drawn.between(1, 60)); break;
            case 2: pair.same("letters", depth(), drawn.between(1, 9)); break;
            case 3: pair.same("up", 0); break;
            case 4: pair.same("open", 0); break;
            case 5: pair.same("wouldOpen", 0); break;
            case 6: case 7: pair.same("undo"); break;
            case 8: pair.same("told", drawn.between(6, 13)); break;
            default: lookAtAll(); break;
        }
    }

    private void shoreBehindShore() {
        while (!pair.isSpent()) {
            String text = drawn.shoreText(2, 2, 2);
            pair.tell(drawn.oneOf(3) ? drawn.spoiled(text) : text);
            pair.same("fault");
            for (int i = 0; i < 12; i++) {
                whatAShoreEnds();
            }
        }
    }

    private void whatAShoreEnds() {
        switch (drawn.upTo(10)) {
            case 0: pair.same("drift", drawn.between(1, 60)); break;
            case 1: pair.same("down", person(), depth()); break;
            case 2: pair.same("undo"); break;
            case 3: pair.same("keep", drawn.upTo(1)); break;
            case 4: pair.same("goBack", drawn.upTo(1)); break;
            case 5: pair.same("find", drawn.upTo(1), 0, drawn.upTo(2)); break;
            case 6: pair.same("write", person(), drawn.upTo(99)); break;
            case 7: pair.same("stays", drawn.between(-1, 62)); break;
            case 8: pair.same("ask"); break;
            case 9: pair.same("judge"); break;
            default: pair.same("told", drawn.upTo(13)); break;
        }
    }

    /** Two texts of 240 letters, full of clauses and blanks. */
    private void textsToTheLastLetter() {
        for (int text = 0; text < 2; text++) {
            StringBuilder s = new StringBuilder(drawn.shoreText(4, 7, 6));
            while (s.length() < 240) {
                s.insert(afterAnEnd(s), ' ');
            }
            pair.tell(drawn.oneOf(2) ? drawn.spoiled(s.toString()) : s.toString());
            pair.same("fault");
            pair.same("told", drawn.upTo(4));
        }
        lookAtAll();
        while (!pair.isSpent()) {
            pair.same("feed", drawn.upTo(255));
        }
    }

    private int afterAnEnd(StringBuilder s) {
        int at = s.indexOf(";", drawn.upTo(s.length() - 1));
        return at < 0 ? s.length() : at + 1;
    }

    private void doneAndUndone() {
        pair.tell(SMALL_SHORE);
        while (!pair.isSpent()) {
            int deeds = drawn.upTo(45);
            for (int i = 0; i < deeds; i++) {
                oneDeed();
            }
            pair.same("told", 13);
            int undone = drawn.upTo(24);
            for (int i = 0; i < undone; i++) {
                pair.same("undo");
            }
            lookAtAll();
        }
    }

    private void oneDeed() {
        switch (drawn.upTo(6)) {
            case 0: pair.same("year", drawn.between(1, 4)); break;
            case 1: pair.same("down", person(), depth()); break;
            case 2: pair.same("up", person()); break;
            case 3: pair.same("open", person()); break;
            case 4: pair.same("take", drawn.oneOf(5) ? good() : 9); break;
            default: pair.same("drift", drawn.between(1, 3)); break;
        }
    }

    private void adrift() {
        pair.tell("s5 7;d2;d3;d5;d9;" + "p1 150;".repeat(7));
        pair.same("seed", drawn.any() & Integer.MAX_VALUE);
        while (!pair.isSpent()) {
            switch (drawn.upTo(5)) {
                case 0: pair.same("undo"); break;
                case 1: pair.same(drawn.oneOf(2) ? "keep" : "goBack", drawn.upTo(1)); break;
                case 2: pair.same("told", drawn.between(8, 10)); break;
                case 3: pair.same("person", person(), drawn.upTo(4)); break;
                default: pair.same("drift", drawn.between(1, 9)); break;
            }
        }
    }

    /** What one found indeed who was at a depth for some days: asked for as ask() says, to the end. */
    private void found() {
        pair.tell(drawn.shoreText(4, 0, 6));
        while (!pair.isSpent()) {
            int days = drawn.upTo(30);
            int d = depth();
            if (drawn.oneOf(2)) {
                int years = Math.max(0, days * pair.plain.depth(d));
                pair.same("find", 1, 0, years / Math.max(1, pair.plain.told(1)));
            }
            for (int i = 0; i < 7; i++) {
                int asked = pair.plain.ask();
                pair.same("ask");
                pair.same("find", 0, asked, worthThen(asked, d, days));
                pair.same("stays", -1);
            }
            for (int i = 0; i <= pair.plain.stays(-1); i++) {
                pair.same("stays", i);
            }
            pair.same("tear");
            pair.same("stays", drawn.upTo(124));
            pair.same("year", 1);
        }
    }

    private int worthThen(int good, int d, int days) {
        PlainModel then = new PlainModel();
        for (char letter : ("s1 1;g" + pair.plain.good(good, 1) + " " + pair.plain.good(good, 2) + " "
                + pair.plain.good(good, 3) + ";").toCharArray()) {
            then.feed(letter);
        }
        then.shore();
        for (int i = 0; i < days; i++) {
            then.year(Math.max(1, pair.plain.depth(d)));
        }
        return Math.max(0, then.good(0, 0));
    }

    private void written() {
        pair.tell(drawn.shoreText(2, 7, 0));
        while (!pair.isSpent()) {
            int p = person();
            switch (drawn.upTo(8)) {
                case 0: oneDeed(); break;
                case 1: pair.same("undo"); break;
                case 2: pair.same("told", 12); break;
                case 3: case 4: pair.same("judge"); break;
                case 5: tearSometimes(); break;
                default: pair.same("write", p, drawn.oneOf(9) ? drawn.upTo(150) : pair.plain.person(p, 0)); break;
            }
        }
    }

    /** Seldom enough that the book fills up now and then. */
    private void tearSometimes() {
        if (drawn.oneOf(5)) {
            pair.same("tear");
        }
    }
}

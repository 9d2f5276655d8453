/** Promises 31 to 33: seed, keep, goBack. */
public final class DrawsTest {
    private static final int UNKNOWN = ThreeBelow.UNKNOWN;
    private static final int OUTSIDE = ThreeBelow.OUTSIDE;
    private static final int NOT = ThreeBelow.NOT;

    public static void main(String[] args) {
        seed();
        keep();
        goBack();
        imagesHoldAll();
        Check.end();
    }

    private static void seed() {
        ThreeBelow x = Check.shoreOf("s5 7;d3;p10 60;");
        Check.due("seed(-1)", x.seed(-1), OUTSIDE);
        Check.due("seed, least", x.seed(Integer.MIN_VALUE), OUTSIDE);
        Check.due("seed at first", x.seed(2147483647), 0);
        Check.due("seed, most", x.seed(0), 2147483647);
        x.drift(1);
        // 0 becomes 12345, and that 1406932606.
        Check.due("two draws from 0", x.seed(1), 1406932606);
        Check.due("seed(1)", x.seed(0), 1);
        Check.due("no shore", new ThreeBelow().seed(3), 0);
    }

    private static void keep() {
        ThreeBelow x = Check.shoreOf("s5 7;d3;p10 60;");
        Check.due("keep(2)", x.keep(2), UNKNOWN);
        Check.due("keep(-1)", x.keep(-1), UNKNOWN);
        x.year(1);
        x.year(1);
        Check.due("a refused keep forgets nothing", x.keep(2), UNKNOWN);
        Check.due("can be undone", x.told(13), 2);
        Check.due("keep(0)", x.keep(0), 1);
        Check.due("nothing can be undone", x.told(13), 0);
        Check.due("undo", x.undo(), NOT);
        Check.due("years", x.told(6), 2);
        x.year(1);
        Check.due("undo behind keep", x.undo(), 0);
        Check.due("years", x.told(6), 2);
    }

    private static void goBack() {
        ThreeBelow x = Check.shoreOf("s5 7;d3;p10 60;");
        x.year(1);
        Check.due("goBack(2)", x.goBack(2), UNKNOWN);
        Check.due("goBack(-1)", x.goBack(-1), UNKNOWN);
        Check.due("goBack(0), not kept", x.goBack(0), NOT);
        Check.due("goBack(1), not kept", x.goBack(1), NOT);
        Check.due("a refused goBack forgets nothing", x.told(13), 1);
        x.keep(1);
        x.year(5);
        x.keep(0);
        x.year(5);
        Check.due("goBack(1)", x.goBack(1), 1);
        Check.due("years", x.told(6), 1);
        Check.due("undo", x.undo(), NOT);
        Check.due("goBack(0)", x.goBack(0), 1);
        Check.due("years", x.told(6), 6);
        Check.due("goBack(0) again", x.goBack(0), 1);
        x.keep(1);
        x.year(1);
        x.goBack(1);
        Check.due("kept anew", x.told(6), 6);
    }

    private static void imagesHoldAll() {
        ThreeBelow x = Check.shoreOf("s5 7;d3;p10 60;p20 60;g100 10 999;");
        x.seed(99);
        x.down(0, 0);
        x.year(4);
        x.find(1, 0, 1);
        x.keep(0);
        x.up(0);
        x.open(0);
        x.take(0);
        x.down(1, 0);
        x.year(100);
        x.write(0, 1);
        x.seed(5);
        Check.due("goBack(0)", x.goBack(0), 1);
        Check.due("years", x.told(6), 4);
        Check.due("age", x.person(0, 0), 10);
        Check.due("where", x.person(0, 2), 10);
        Check.due("box", x.person(0, 3), 4);
        Check.due("days", x.person(0, 4), 1);
        Check.due("the other's age", x.person(1, 0), 24);
        Check.due("the other is above", x.person(1, 2), 0);
        Check.due("worth", x.good(0, 0), 146);
        Check.due("found stays as it is", x.told(11), 1);
        Check.due("the book stays as it is", x.told(12), 1);
        Check.due("seed", x.seed(0), 99);
    }
}

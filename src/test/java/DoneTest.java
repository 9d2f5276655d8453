/** Promises 9 to 15: year, down, up, open, take, drift, undo. */
public final class DoneTest {
    private static final int UNKNOWN = ThreeBelow.UNKNOWN;
    private static final int OUTSIDE = ThreeBelow.OUTSIDE;
    private static final int NOT = ThreeBelow.NOT;
    private static final int FULL = ThreeBelow.FULL;

    public static void main(String[] args) {
        year();
        yearGrowsGoods();
        yearRotsGoods();
        yearsAreFull();
        down();
        up();
        open();
        take();
        drift();
        driftFollowsDraws();
        driftIsFull();
        undo();
        undoOfEach();
        undoKeepsTwenty();
        refusedIsNotUndone();
        Check.end();
    }

    private static void year() {
        ThreeBelow x = Check.shoreOf("s5 7;d3;p10 60;p58 60;");
        Check.due("year(0)", x.year(0), OUTSIDE);
        Check.due("year(-1)", x.year(-1), OUTSIDE);
        Check.due("year(301)", x.year(301), OUTSIDE);
        Check.due("year(301), no shore", new ThreeBelow().year(301), OUTSIDE);
        Check.due("year(1), no shore", new ThreeBelow().year(1), NOT);
        Check.due("year(1)", x.year(1), 1);
        Check.due("dead at 1", x.told(8), 0);
        Check.due("age", x.person(1, 0), 59);
        Check.due("year(1)", x.year(1), 2);
        Check.due("dead at 2", x.told(8), 2);
        Check.due("year(300)", x.year(300), 302);
        Check.due("age at death", x.person(0, 0), 60);
        Check.due("dead at 302", x.told(8), 3);
    }

    private static void yearGrowsGoods() {
        ThreeBelow x = Check.shoreOf("s5 7;g100 10 121;g9 10 9999;g500 50 100;g10 50 22;g50 0 9999;g99 50 148;");
        x.year(1);
        Check.due("grown", x.good(0, 0), 110);
        Check.due("too little to grow", x.good(1, 0), 9);
        Check.due("above M at first", x.good(2, 0), 500);
        Check.due("cut", x.good(3, 0), 15);
        Check.due("by nothing", x.good(4, 0), 50);
        Check.due("just M", x.good(5, 0), 148);
        x.year(1);
        Check.due("grown to M", x.good(0, 0), 121);
        Check.due("cut again", x.good(3, 0), 22);
        x.year(5);
        Check.due("as it was", x.good(0, 0), 121);
        Check.due("as it was, cut", x.good(3, 0), 22);
    }

    private static void yearRotsGoods() {
        ThreeBelow x = Check.shoreOf("s5 7;g100 51 0;g99 51 0;g101 100 0;g3 100 9999;");
        x.year(1);
        Check.due("one of a hundred less", x.good(0, 0), 99);
        Check.due("too little to rot", x.good(1, 0), 99);
        Check.due("half, cut", x.good(2, 0), 51);
        Check.due("half of 3", x.good(3, 0), 2);
        x.year(1);
        Check.due("stays", x.good(0, 0), 99);
        Check.due("half of 51", x.good(2, 0), 26);
        Check.due("half of 2", x.good(3, 0), 1);
        x.year(300);
        Check.due("never nothing", x.good(3, 0), 1);
        Check.due("never nothing either", x.good(2, 0), 1);
    }

    private static ThreeBelow atYear90000() {
        ThreeBelow x = Check.shoreOf("s5 7;d3;p10 60;");
        for (int i = 1; i <= 300; i++) {
            Check.due("year " + i, x.year(300), 300L * i);
        }
        return x;
    }

    private static void yearsAreFull() {
        ThreeBelow x = atYear90000();
        Check.due("at 90000", x.year(1), 90001);
        Check.due("year above 90000", x.year(1), FULL);
        Check.due("drift above 90000", x.drift(1), FULL);
        Check.due("outside above 90000", x.year(0), OUTSIDE);
        Check.due("years", x.told(6), 90001);
        Check.due("undo", x.undo(), 19);
        Check.due("year at 90000", x.year(300), 90300);
        Check.due("year above", x.year(300), FULL);
    }

    private static void driftIsFull() {
        ThreeBelow x = atYear90000();
        Check.due("drift at 90000", x.drift(60), 90060);
        Check.due("drift above 90000", x.drift(1), FULL);
        Check.due("drift outside above 90000", x.drift(61), OUTSIDE);
    }

    private static void down() {
        ThreeBelow x = Check.shoreOf("s5 7;d3;d4;p10 60;p60 60;p20 60;");
        Check.due("down(3, 0)", x.down(3, 0), UNKNOWN);
        Check.due("down(-1, 0)", x.down(-1, 0), UNKNOWN);
        Check.due("down(0, 2)", x.down(0, 2), UNKNOWN);
        Check.due("down(0, -1)", x.down(0, -1), UNKNOWN);
        Check.due("down of a dead one, depth unknown", x.down(1, 2), UNKNOWN);
        Check.due("down of a dead one", x.down(1, 0), NOT);
        Check.due("down(0, 1)", x.down(0, 1), 10);
        Check.due("where", x.person(0, 2), 11);
        Check.due("down again", x.down(0, 0), NOT);
        x.year(5);
        Check.due("down(2, 0)", x.down(2, 0), 25);
        Check.due("stay begins", x.person(2, 4), 0);
        x.year(4);
        Check.due("days of the first", x.person(0, 4), 2);
        Check.due("days of the second", x.person(2, 4), 1);
        x.up(0);
        x.down(0, 1);
        Check.due("stay begins anew", x.person(0, 4), 0);
        Check.due("box stays", x.person(0, 3), 9);
        x.year(4);
        Check.due("days of the new stay", x.person(0, 4), 1);
        Check.due("box has more", x.person(0, 3), 13);
    }

    private static void up() {
        ThreeBelow x = Check.shoreOf("s5 7;d3;d4;p10 60;p60 60;");
        Check.due("up(2)", x.up(2), UNKNOWN);
        Check.due("up(-1)", x.up(-1), UNKNOWN);
        Check.due("up of one above", x.up(0), NOT);
        Check.due("up of a dead one", x.up(1), NOT);
        x.down(0, 0);
        x.year(8);
        Check.due("up", x.up(0), 2);
        Check.due("age", x.person(0, 0), 10);
        Check.due("box shut", x.person(0, 3), 8);
        Check.due("where", x.person(0, 2), 0);
        x.year(1);
        Check.due("older above", x.person(0, 0), 11);
        Check.due("box as it was", x.person(0, 3), 8);
        x.down(0, 1);
        Check.due("up at once", x.up(0), 0);
    }

    private static void open() {
        ThreeBelow x = Check.shoreOf("s5 7;d3;p10 60;p60 60;p10 60;p10 60;");
        Check.due("open(4)", x.open(4), UNKNOWN);
        Check.due("open(-1)", x.open(-1), UNKNOWN);
        Check.due("open of a dead one", x.open(1), NOT);
        Check.due("open, empty", x.open(0), 10);
        x.down(0, 0);
        x.down(2, 0);
        x.down(3, 0);
        Check.due("open below", x.open(0), NOT);
        x.year(49);
        x.up(0);
        Check.due("open", x.open(0), 59);
        Check.due("box is empty", x.person(0, 3), 0);
        Check.due("lives", x.person(0, 2), 0);
        Check.due("open again", x.open(0), 59);
        x.year(1);
        x.up(2);
        Check.due("open to L", x.open(2), 60);
        Check.due("dead at L", x.person(2, 2), 1);
        Check.due("dead one's box is empty", x.person(2, 3), 0);
        x.year(300);
        x.up(3);
        Check.due("open far above L", x.open(3), 360);
        Check.due("dead by it", x.person(3, 2), 1);
        Check.due("open, dead", x.open(3), NOT);
    }

    private static void take() {
        ThreeBelow x = Check.shoreOf("s5 7;g100 10 999;g200 60 5;");
        Check.due("take(2)", x.take(2), UNKNOWN);
        Check.due("take(-1)", x.take(-1), UNKNOWN);
        x.year(1);
        Check.due("take(0)", x.take(0), 110);
        Check.due("take(0) again", x.take(0), NOT);
        Check.due("worth", x.good(0, 0), 0);
        Check.due("V", x.good(0, 1), 100);
        Check.due("the other", x.good(1, 0), 180);
        x.year(100);
        Check.due("worth 0 for good", x.good(0, 0), 0);
    }

    private static void drift() {
        ThreeBelow x = Check.shoreOf("s5 7;d3;p10 60;");
        Check.due("drift(0)", x.drift(0), OUTSIDE);
        Check.due("drift(61)", x.drift(61), OUTSIDE);
        Check.due("drift(61), no shore", new ThreeBelow().drift(61), OUTSIDE);
        Check.due("drift(1), no shore", new ThreeBelow().drift(1), NOT);
        Check.due("drift(60)", x.drift(60), 60);
        Check.due("undo", x.undo(), 0);
        Check.due("years", x.told(6), 0);
        ThreeBelow noDepths = Check.shoreOf("s5 7;p10 60;");
        noDepths.seed(9);
        noDepths.drift(5);
        Check.due("no draws without depths", noDepths.seed(9), 9);
        ThreeBelow nobody = Check.shoreOf("s5 7;d1;");
        nobody.seed(9);
        nobody.drift(5);
        Check.due("no draws without persons", nobody.seed(9), 9);
    }

    private static long nextSeed(long seed) {
        return (seed * 1103515245L + 12345L) % 2147483648L;
    }

    /** Draws and moves are counted here once more, with the calls down() and up() in the place of drift(). */
    private static void driftFollowsDraws() {
        String text = "s5 7;d3;d4;d5;p10 60;p11 20;p12 62;g40 3 99;";
        for (int first = 0; first < 40; first++) {
            ThreeBelow x = Check.shoreOf(text);
            ThreeBelow y = Check.shoreOf(text);
            long seed = first * 53687091L;
            x.seed((int) seed);
            x.drift(17);
            for (int i = 0; i < 17; i++) {
                seed = nextSeed(seed);
                int p = (int) (seed / 65536 % 3);
                seed = nextSeed(seed);
                int d = (int) (seed / 65536 % 5);
                if (d < 3) {
                    y.down(p, d);
                } else {
                    y.up(p);
                }
                y.year(1);
            }
            String name = "drift by seed " + first + ": ";
            for (int p = 0; p < 3; p++) {
                for (int what = 0; what <= 4; what++) {
                    Check.due(name + "person(" + p + ", " + what + ")", x.person(p, what), y.person(p, what));
                }
            }
            Check.due(name + "good", x.good(0, 0), y.good(0, 0));
            Check.due(name + "can be undone", x.told(13), 1);
            Check.due(name + "seed", x.seed(0), seed);
        }
    }

    private static void undo() {
        ThreeBelow x = Check.shoreOf("s5 7;d3;p10 60;g100 10 999;");
        Check.due("undo, none", x.undo(), NOT);
        x.year(1);
        x.year(2);
        x.year(3);
        Check.due("undo", x.undo(), 2);
        Check.due("years", x.told(6), 3);
        Check.due("undo", x.undo(), 1);
        Check.due("years", x.told(6), 1);
        x.year(5);
        Check.due("can be undone", x.told(13), 2);
        Check.due("undo", x.undo(), 1);
        Check.due("undo", x.undo(), 0);
        Check.due("years", x.told(6), 0);
        Check.due("undo, none more", x.undo(), NOT);
    }

    private static void undoOfEach() {
        ThreeBelow x = Check.shoreOf("s5 7;d3;p10 60;g100 10 999;");
        x.down(0, 0);
        x.year(7);
        x.up(0);
        Check.due("undo of up", x.undo(), 2);
        Check.due("where", x.person(0, 2), 10);
        Check.due("days", x.person(0, 4), 2);
        x.up(0);
        x.open(0);
        Check.due("undo of open", x.undo(), 3);
        Check.due("age", x.person(0, 0), 10);
        Check.due("box", x.person(0, 3), 7);
        int worth = x.take(0);
        Check.due("undo of take", x.undo(), 3);
        Check.due("worth", x.good(0, 0), worth);
        x.find(1, 0, 2);
        x.write(0, 10);
        x.seed(5);
        x.drift(20);
        int seed = x.seed(6);
        Check.due("undo of drift", x.undo(), 3);
        Check.due("years", x.told(6), 7);
        Check.due("age", x.person(0, 0), 10);
        Check.due("seed stays", x.seed(seed), 6);
        Check.due("found stays", x.told(11), 1);
        Check.due("book stays", x.told(12), 1);
        x.undo();
        x.undo();
        Check.due("undo of down", x.undo(), 0);
        Check.due("where at first", x.person(0, 2), 0);
        Check.due("box at first", x.person(0, 3), 0);
        Check.due("worth at first", x.good(0, 0), 100);
        x.year(60);
        Check.due("dead", x.told(8), 1);
        x.undo();
        Check.due("lives again", x.told(8), 0);
    }

    private static void undoKeepsTwenty() {
        ThreeBelow x = Check.shoreOf("s5 7;d3;p10 60;");
        for (int i = 1; i <= 33; i++) {
            x.year(1);
            Check.due("can be undone behind " + i, x.told(13), Math.min(i, 20));
        }
        for (int i = 19; i >= 0; i--) {
            Check.due("undo to " + i, x.undo(), i);
            Check.due("years", x.told(6), 13 + i);
        }
        Check.due("undo, oldest lost", x.undo(), NOT);
        Check.due("years", x.told(6), 13);
    }

    private static void refusedIsNotUndone() {
        ThreeBelow x = Check.shoreOf("s5 7;d3;p10 60;p60 60;g100 10 999;");
        x.take(0);
        x.take(0);
        x.take(1);
        x.year(0);
        x.drift(0);
        x.down(0, 1);
        x.down(1, 0);
        x.up(0);
        x.up(7);
        x.open(1);
        x.open(7);
        Check.due("can be undone", x.told(13), 1);
        Check.due("undo", x.undo(), 0);
        Check.due("worth", x.good(0, 0), 100);
    }
}

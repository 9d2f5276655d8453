/** Promises 25 to 30: find, stays, ask, write, tear, judge. */
public final class FoundTest {
    private static final int NONE = ThreeBelow.NONE;
    private static final int UNKNOWN = ThreeBelow.UNKNOWN;
    private static final int OUTSIDE = ThreeBelow.OUTSIDE;
    private static final int FULL = ThreeBelow.FULL;

    public static void main(String[] args) {
        find();
        findIsFull();
        staysOfAll();
        staysByKings();
        staysByWorth();
        staysOfFourDepths();
        staysAsTold();
        ask();
        askByParts();
        askPartsOffOne();
        askNone();
        write();
        tear();
        judge();
        Check.end();
    }

    private static void find() {
        ThreeBelow x = Check.shoreOf("s5 7;d4;g100 10 900;g50 60 0;");
        Check.due("find(0, 2, 0)", x.find(0, 2, 0), UNKNOWN);
        Check.due("find(0, -1, 0)", x.find(0, -1, 0), UNKNOWN);
        Check.due("find(0, 2, -1)", x.find(0, 2, -1), UNKNOWN);
        Check.due("find(2, 0, 0)", x.find(2, 0, 0), OUTSIDE);
        Check.due("find(-1, 0, 0)", x.find(-1, 0, 0), OUTSIDE);
        Check.due("find(2, 9, 0)", x.find(2, 9, 0), OUTSIDE);
        Check.due("find(1, 1, 0)", x.find(1, 1, 0), OUTSIDE);
        Check.due("find(1, -1, 0)", x.find(1, -1, 0), OUTSIDE);
        Check.due("find(1, 0, -1)", x.find(1, 0, -1), OUTSIDE);
        Check.due("find(1, 0, 10000)", x.find(1, 0, 10000), OUTSIDE);
        Check.due("find(0, 1, 10000)", x.find(0, 1, 10000), OUTSIDE);
        Check.due("find(0, 1, -1)", x.find(0, 1, -1), OUTSIDE);
        Check.due("found nothing", x.told(11), 0);
        Check.due("find(0, 1, 9999)", x.find(0, 1, 9999), 1);
        Check.due("find(1, 0, 0)", x.find(1, 0, 0), 2);
        Check.due("find(0, 0, 0)", x.find(0, 0, 0), 3);
        Check.due("no shore: find of a good", new ThreeBelow().find(0, 0, 0), UNKNOWN);
        Check.due("no shore: find of kings", new ThreeBelow().find(1, 0, 0), 1);
    }

    private static void findIsFull() {
        ThreeBelow x = Check.shoreOf("s5 7;d4;g100 10 900;");
        for (int i = 1; i <= 6; i++) {
            Check.due("find " + i, x.find(1, 0, 1), i);
        }
        Check.due("find, full", x.find(1, 0, 1), FULL);
        Check.due("find, full and outside", x.find(1, 1, 1), OUTSIDE);
        Check.due("find, full and unknown", x.find(0, 1, 1), UNKNOWN);
        Check.due("found", x.told(11), 6);
        x.tear();
        Check.due("find behind tear", x.find(1, 0, 1), 1);
    }

    private static void staysOfAll() {
        ThreeBelow x = Check.shoreOf("s5 7;d4;d1;d200;d9;");
        Check.due("all", x.stays(NONE), 124);
        for (int i = 0; i < 124; i++) {
            Check.due("stays(" + i + ")", x.stays(i), i / 31 * 100 + i % 31);
        }
        Check.due("stays(124)", x.stays(124), NONE);
        Check.due("stays(-2)", x.stays(-2), NONE);
        Check.due("stays, most", x.stays(Integer.MAX_VALUE), NONE);
        Check.due("stays, least", x.stays(Integer.MIN_VALUE), NONE);
        Check.due("no depths", Check.shoreOf("s5 7;g1 1 1;").stays(NONE), 0);
        Check.due("no depths, the first", Check.shoreOf("s5 7;g1 1 1;").stays(0), NONE);
    }

    private static void staysByKings() {
        ThreeBelow x = Check.shoreOf("s5 7;d4;d1;");
        x.find(1, 0, 3);
        // 21 .. 27 years: 6 days of 4, 21 .. 27 days of 1.
        Check.due("how many", x.stays(NONE), 8);
        Check.due("first", x.stays(0), 6);
        Check.due("second", x.stays(1), 121);
        Check.due("last", x.stays(7), 127);
        Check.due("behind the last", x.stays(8), NONE);
        x.find(1, 0, 4);
        Check.due("two kings at once", x.stays(NONE), 0);
        Check.due("two kings at once, the first", x.stays(0), NONE);
        ThreeBelow far = Check.shoreOf("s5 1;d200;");
        far.find(1, 0, 6000);
        Check.due("6000 kings", far.stays(0), 30);
        Check.due("6000 kings, how many", far.stays(NONE), 1);
    }

    private static void staysByWorth() {
        ThreeBelow x = Check.shoreOf("s5 7;d2;d3;g100 10 9999;g64 100 0;");
        // 100 110 121 133 146 160 176; 64 32 16 8 4 2 1 1 ..
        x.find(0, 0, 176);
        Check.due("6 years: how many", x.stays(NONE), 2);
        Check.due("6 years: 3 days of 2", x.stays(0), 3);
        Check.due("6 years: 2 days of 3", x.stays(1), 102);
        x.find(0, 1, 1);
        Check.due("6 years, both goods", x.stays(NONE), 2);
        x.find(0, 1, 2);
        Check.due("none fits", x.stays(NONE), 0);
        x.tear();
        Check.due("all again", x.stays(NONE), 62);
        x.find(0, 1, 8);
        Check.due("3 years: how many", x.stays(NONE), 1);
        Check.due("3 years: 1 day of 3", x.stays(0), 101);
        x.tear();
        x.find(0, 1, 64);
        Check.due("no days at all", x.stays(NONE), 2);
        Check.due("no days at 0", x.stays(0), 0);
        Check.due("no days at 1", x.stays(1), 100);
        x.tear();
        x.find(0, 1, 1);
        x.find(1, 0, 0);
        Check.due("6 years, first king", x.stays(NONE), 2);
    }

    private static void staysOfFourDepths() {
        ThreeBelow x = Check.shoreOf("s5 7;d5;d4;d3;d2;g100 10 9999;g128 100 0;");
        // 100 110 121 133 146 160 176 193 212 233 256 281 309
        x.find(0, 0, 309);
        Check.due("12 years: how many", x.stays(NONE), 3);
        Check.due("12 years: 3 days of 4", x.stays(0), 103);
        Check.due("12 years: 4 days of 3", x.stays(1), 204);
        Check.due("12 years: 6 days of 2", x.stays(2), 306);
        x.tear();
        x.find(0, 0, 110);
        Check.due("1 year", x.stays(NONE), 0);
        x.tear();
        x.find(0, 1, 8);
        Check.due("4 years: how many", x.stays(NONE), 2);
        Check.due("4 years: 1 day of 4", x.stays(0), 101);
        Check.due("4 years: 2 days of 2", x.stays(1), 302);
    }

    private static void staysAsTold() {
        ThreeBelow x = Check.shoreOf("s5 7;d2;p5 80;g100 10 9999;");
        x.year(30);
        x.take(0);
        x.find(0, 0, 121);
        Check.due("from YEAR 0, as told", x.stays(0), 1);
        Check.due("from YEAR 0, how many", x.stays(NONE), 1);
        x.find(1, 0, 0);
        Check.due("kings from YEAR 0", x.stays(NONE), 1);
        Check.feedAll(x, "s5 7;d1;p5 80;g100 10 9999;");
        x.shore();
        x.find(0, 0, 121);
        Check.due("another shore", x.stays(0), 2);
        x.undo();
        x.keep(0);
        x.goBack(0);
        Check.due("found stays", x.told(11), 1);
    }

    private static void ask() {
        // Worth then, by days: good 0 is always so; good 1 ends at 1 early; good 2 grows on.
        ThreeBelow x = Check.shoreOf("s5 7;d1;g5 0 9;g64 100 0;g100 10 9999;");
        Check.due("the growing one", x.ask(), 2);
        x.find(1, 0, 0);
        // Days 0 .. 6: both tell all apart; the lesser of them.
        Check.due("of like ones the least", x.ask(), 1);
        x.find(0, 1, 64);
        Check.due("one stay is not parted", x.ask(), NONE);
        x.find(0, 1, 1);
        Check.due("no stay is not parted", x.ask(), NONE);
        x.tear();
        x.find(0, 1, 1);
        Check.due("what is known does not part", x.ask(), 2);
    }

    private static void askByParts() {
        // Years 0 .. 30. Good 0 grows from 10 by tens at 10 of a hundred, up to 13: 10 11 12 13 13 ..: a part of 28.
        // Good 1 falls 20 19 18 17 16 15 14 13 12 11 10 9 9 ..: a part of 20.
        // Good 2 falls as good 1 does.
        ThreeBelow x = Check.shoreOf("s5 7;d1;g10 10 13;g20 60 0;g20 60 0;");
        Check.due("the smaller greatest part", x.ask(), 1);
        x.take(1);
        Check.due("a good that is taken, as told", x.ask(), 1);
        x.find(1, 0, 0);
        // Years 0 .. 6: good 0 has a part of 4, good 1 parts all.
        Check.due("with the first king", x.ask(), 1);
        x.tear();
        x.find(0, 1, 20);
        Check.due("no years alone", x.stays(NONE), 1);
        Check.due("one stay alone", x.ask(), NONE);
        // Like worths need not lie side by side: 2 and 4 years at two depths.
        ThreeBelow y = Check.shoreOf("s5 60;d2;d4;g100 50 9999;");
        y.find(1, 0, 0);
        Check.due("both depths", y.stays(NONE), 30 + 15);
        Check.due("parts them", y.ask(), 0);
        ThreeBelow z = Check.shoreOf("s5 60;d2;d2;g100 10 9999;g100 50 150;");
        z.find(1, 0, 0);
        z.find(0, 1, 100);
        Check.due("no days, two depths", z.stays(NONE), 2);
        Check.due("cannot be told apart", z.ask(), NONE);
    }

    private static void askPartsOffOne() {
        // 2 1 1 1 ..: no days at all are told from the thirty others.
        Check.due("one of thirty-one", Check.shoreOf("s5 7;d1;g5 0 9;g2 100 0;").ask(), 1);
        // Good 1 parts 62 into 2 and 60, good 2 into 2, 2 and 58.
        Check.due("two by two", Check.shoreOf("s5 7;d1;d1;g5 0 9;g2 100 0;g4 100 0;").ask(), 2);
        Check.due("two by two, turned", Check.shoreOf("s5 7;d1;d1;g5 0 9;g4 100 0;g2 100 0;").ask(), 1);
    }

    private static void askNone() {
        Check.due("no goods", Check.shoreOf("s5 7;d1;").ask(), NONE);
        Check.due("no depths", Check.shoreOf("s5 7;g100 10 999;").ask(), NONE);
        Check.due("goods that never change", Check.shoreOf("s5 7;d1;g5 0 9;g9 10 99;").ask(), NONE);
    }

    private static void write() {
        ThreeBelow x = Check.shoreOf("s5 7;p10 60;p11 60;");
        Check.due("write(2, 0)", x.write(2, 0), UNKNOWN);
        Check.due("write(-1, -1)", x.write(-1, -1), UNKNOWN);
        Check.due("write(0, -1)", x.write(0, -1), OUTSIDE);
        Check.due("write(0, 10000)", x.write(0, 10000), OUTSIDE);
        Check.due("write(0, 0)", x.write(0, 0), 1);
        Check.due("write(1, 9999)", x.write(1, 9999), 2);
        for (int i = 3; i <= 15; i++) {
            Check.due("write " + i, x.write(0, 10), i);
        }
        Check.due("write, full", x.write(0, 10), FULL);
        Check.due("write, full and outside", x.write(0, -1), OUTSIDE);
        Check.due("write, full and unknown", x.write(2, 0), UNKNOWN);
        Check.due("entries", x.told(12), 15);
    }

    private static void tear() {
        ThreeBelow x = Check.shoreOf("s5 7;d1;p10 60;g10 10 99;");
        Check.due("tear, nothing", x.tear(), 0);
        x.write(0, 11);
        x.write(0, 12);
        x.find(1, 0, 1);
        Check.due("tear", x.tear(), 3);
        Check.due("found", x.told(11), 0);
        Check.due("book", x.told(12), 0);
        Check.due("stays", x.stays(NONE), 31);
        Check.due("judge", x.judge(), NONE);
        Check.due("tear again", x.tear(), 0);
    }

    private static void judge() {
        ThreeBelow x = Check.shoreOf("s5 7;d1;p10 60;p20 60;p70 60;");
        Check.due("judge, no book", x.judge(), NONE);
        x.write(1, 20);
        x.write(2, 70);
        x.write(0, 10);
        Check.due("judge, all right", x.judge(), NONE);
        x.write(0, 11);
        x.write(1, 21);
        Check.due("judge, the fourth", x.judge(), 3);
        x.down(1, 0);
        x.year(1);
        Check.due("judge, the third", x.judge(), 2);
        x.up(1);
        x.open(1);
        Check.due("judge, the first", x.judge(), 0);
        x.undo();
        Check.due("judge, undone", x.judge(), 2);
    }
}

/** Section 3 of the document and promises 25 to 30: a test for each sentence that bounds what is found and written. */
public final class FoundEdgesTest {
    private static final int NONE = ThreeBelow.NONE;
    private static final int FULL = ThreeBelow.FULL;

    public static void main(String[] args) {
        foundAtMost6();
        foundFrom0To9999();
        foundKingsWithoutAShore();
        foundFromYear0AsTold();
        staysFrom0To30Days();
        staysOfLongDays();
        staysByTheirNumber();
        staysOfAllThatIsFound();
        staysNone();
        staysRise();
        staysOfSixGoodsAtFourDepths();
        staysOfALaterShore();
        askSmallestGreatestPart();
        askLeastOfLikeOnes();
        askNone();
        bookAtMost15();
        bookFrom0To9999();
        bookOfOneTwice();
        judgeFirstThatIsOtherwise();
        judgeNow();
        judgeNone();
        tearBoth();
        Check.end();
    }

    /** "FOUND (6 at most)"; "FULL (6)". */
    private static void foundAtMost6() {
        ThreeBelow x = Check.shoreOf("s1 7;d1;g100 10 9999;");
        for (int i = 1; i <= 5; i++) {
            Check.due("find " + i, x.find(1, 0, 0), i);
        }
        Check.due("stays by five", x.stays(NONE), 7);
        Check.due("find 6", x.find(0, 0, 110), 6);
        Check.due("stays by six", x.stays(NONE), 1);
        Check.due("find 7", x.find(0, 0, 121), FULL);
        Check.due("found", x.told(11), 6);
        Check.due("stays by six still", x.stays(0), 1);
    }

    /** "v 0 .. 9999". */
    private static void foundFrom0To9999() {
        ThreeBelow x = Check.shoreOf("s1 1;d1;g963 34 9999;");
        Check.due("find worth 9999", x.find(0, 0, 9999), 1);
        Check.due("worth 9999 from day 8 on", x.stays(NONE), 23);
        Check.due("the first of them", x.stays(0), 8);
        x.tear();
        Check.due("find worth 0", x.find(0, 0, 0), 1);
        Check.due("never worth 0", x.stays(NONE), 0);
        x.tear();
        Check.due("find no king later", x.find(1, 0, 0), 1);
        Check.due("no king later", x.stays(NONE), 1);
        x.tear();
        Check.due("find 9999 kings later", x.find(1, 0, 9999), 1);
        Check.due("never 9999 kings later", x.stays(NONE), 0);
    }

    /** UNKNOWN is "kind 0: the GOOD" alone, and no refusal is for want of a SHORE. */
    private static void foundKingsWithoutAShore() {
        ThreeBelow x = new ThreeBelow();
        for (int i = 1; i <= 6; i++) {
            Check.due("find " + i, x.find(1, 0, 0), i);
        }
        Check.due("find 7", x.find(1, 0, 0), FULL);
        Check.due("stays", x.stays(NONE), 0);
        Check.due("tear", x.tear(), 6);
    }

    /** "by one who went down in YEAR 0, GOODS as told then": whatever has been since. */
    private static void foundFromYear0AsTold() {
        ThreeBelow x = Check.shoreOf("s1 7;d2;p5 80;g100 10 9999;");
        x.year(20);
        x.take(0);
        Check.due("find as told", x.find(0, 0, 100), 1);
        Check.due("0 days", x.stays(0), 0);
        x.find(1, 0, 0);
        Check.due("the first king then", x.stays(NONE), 1);
        Check.due("a taken good is found still", x.find(0, 0, 0), 3);
        Check.due("but never fits", x.stays(NONE), 0);
    }

    /** "DAYS (0 .. 30)". */
    private static void staysFrom0To30Days() {
        for (int kings = 0; kings <= 32; kings++) {
            ThreeBelow x = Check.shoreOf("s1 1;d1;");
            x.find(1, 0, kings);
            Check.due(kings + " kings: how many", x.stays(NONE), kings <= 30 ? 1 : 0);
            Check.due(kings + " kings: the first", x.stays(0), kings <= 30 ? kings : NONE);
        }
        ThreeBelow all = Check.shoreOf("s1 1;d1;");
        Check.due("nothing found: all", all.stays(NONE), 31);
    }

    private static void staysOfLongDays() {
        ThreeBelow x = Check.shoreOf("s1 1;d200;g1 0 0;");
        x.find(1, 0, 6000);
        Check.due("30 days of 200", x.stays(0), 30);
        x.tear();
        x.find(1, 0, 6200);
        Check.due("31 days of 200", x.stays(NONE), 0);
        x.tear();
        x.find(1, 0, 199);
        Check.due("a part of a day", x.stays(NONE), 0);
        ThreeBelow y = Check.shoreOf("s1 1;d200;g100 1 1171;");
        y.find(0, 0, 1171);
        Check.due("behind 400 years, and on", y.stays(NONE), 29);
        Check.due("the first of them", y.stays(0), 2);
    }

    /** "i = NONE how many, else the i-th; NONE." */
    private static void staysByTheirNumber() {
        ThreeBelow x = Check.shoreOf("s1 1;d1;d2;d3;d4;");
        Check.due("how many", x.stays(-1), 124);
        Check.due("the first", x.stays(0), 0);
        Check.due("the last of the first depth", x.stays(30), 30);
        Check.due("the first of the second depth", x.stays(31), 100);
        Check.due("the last", x.stays(123), 330);
        Check.due("behind the last", x.stays(124), NONE);
        Check.due("less than NONE", x.stays(-2), NONE);
        Check.due("farthest", x.stays(Integer.MAX_VALUE), NONE);
        Check.due("least", x.stays(Integer.MIN_VALUE), NONE);
    }

    /** "by which all that is FOUND is so". */
    private static void staysOfAllThatIsFound() {
        ThreeBelow x = Check.shoreOf("s1 7;d1;g100 10 9999;g64 100 0;");
        x.find(1, 0, 0);
        Check.due("first king", x.stays(NONE), 7);
        x.find(0, 1, 1);
        Check.due("and the second good at its end", x.stays(NONE), 1);
        Check.due("6 days", x.stays(0), 6);
        x.find(0, 0, 176);
        Check.due("and the first good so", x.stays(0), 6);
        x.find(1, 0, 0);
        Check.due("found twice", x.stays(0), 6);
        x.find(1, 0, 1);
        Check.due("the sixth is otherwise", x.stays(0), NONE);
    }

    private static void staysNone() {
        Check.due("no shore: how many", new ThreeBelow().stays(NONE), 0);
        Check.due("no shore: the first", new ThreeBelow().stays(0), NONE);
        Check.due("no depths: how many", Check.shoreOf("s1 1;p0 1;g1 0 0;").stays(NONE), 0);
        Check.due("no depths: the first", Check.shoreOf("s1 1;p0 1;g1 0 0;").stays(0), NONE);
    }

    /** "100 times the DEPTH and DAYS; rising". */
    private static void staysRise() {
        ThreeBelow x = Check.shoreOf("s1 12;d12;d4;d3;d1;");
        x.find(1, 0, 1);
        int[] due = {1, 103, 104, 105, 204, 205, 206, 207, 312, 313, 314, 315, 316, 317, 318, 319, 320, 321, 322, 323};
        Check.due("12 .. 23 years", x.stays(NONE), due.length);
        for (int i = 0; i <= due.length; i++) {
            Check.due("stays(" + i + ")", x.stays(i), i < due.length ? due[i] : NONE);
        }
    }

    /** "4 DEPTHS", "6 GOODS": each good is worth at each depth what it is behind that many years. */
    private static void staysOfSixGoodsAtFourDepths() {
        // Good g is worth 2 behind g years and no others.
        ThreeBelow x = Check.shoreOf("s1 1;d6;d3;d2;d1;g2 100 0;g4 100 0;g8 100 0;g16 100 0;g32 100 0;g64 100 0;");
        int[][] due = {{0, 100, 200, 300}, {301}, {201, 302}, {101, 303}, {202, 304}, {305}};
        for (int g = 0; g < 6; g++) {
            x.tear();
            x.find(0, g, 2);
            for (int i = 0; i <= due[g].length; i++) {
                Check.due("good " + g + ": stays(" + i + ")", x.stays(i), i < due[g].length ? due[g][i] : NONE);
            }
        }
        x.tear();
        Check.due("the last good parts most", x.ask(), 5);
    }

    /** "GOODS as told then": of this shore, and of none ahead of it. */
    private static void staysOfALaterShore() {
        ThreeBelow x = Check.shoreOf("s1 1;d6;d3;d2;d1;g2 100 0;g4 100 0;g8 100 0;");
        Check.due("three goods", x.ask(), 2);
        Check.feedAll(x, "s1 1;d1;g4 100 0;g2 100 0;");
        x.shore();
        Check.due("two goods: all stays", x.stays(NONE), 31);
        Check.due("two goods: ask", x.ask(), 0);
        x.find(0, 0, 1);
        Check.due("two goods: the first at its end", x.stays(0), 2);
        Check.feedAll(x, "s1 1;d1;d1;g9 0 0;");
        x.shore();
        Check.due("one good: all stays", x.stays(NONE), 62);
        Check.due("one good: ask", x.ask(), NONE);
    }

    /** "the greatest part that is alike is least". */
    private static void askSmallestGreatestPart() {
        // 31 stays. 4 2 1 1 ..: a part of 29. 8 4 2 1 1 ..: of 28. 2 1 1 ..: of 30.
        ThreeBelow x = Check.shoreOf("s1 1;d1;g4 100 0;g8 100 0;g2 100 0;");
        Check.due("28 is least", x.ask(), 1);
        x.find(0, 0, 1);
        Check.due("from day 2 on, one is parted off", x.ask(), 1);
        x.find(0, 1, 1);
        Check.due("from day 3 on, nothing is", x.ask(), NONE);
    }

    /** "of like ones the least". */
    private static void askLeastOfLikeOnes() {
        Check.due("two alike", Check.shoreOf("s1 1;d1;g5 0 0;g4 100 0;g4 100 0;").ask(), 1);
        Check.due("two by other worths alike", Check.shoreOf("s1 1;d1;g2 100 0;g3 51 0;g1 0 0;g2 100 9;").ask(), 0);
        // All 31 days are told apart by both: the first of them.
        Check.due("all apart", Check.shoreOf("s1 1;d1;g100 5 9999;g100 6 9999;").ask(), 0);
    }

    /** "NONE: none parts them." */
    private static void askNone() {
        Check.due("no shore", new ThreeBelow().ask(), NONE);
        Check.due("no goods", Check.shoreOf("s1 1;d1;").ask(), NONE);
        Check.due("no depths", Check.shoreOf("s1 1;g4 100 0;").ask(), NONE);
        Check.due("goods that stay as they are", Check.shoreOf("s1 1;d1;g4 0 9999;g9 60 0;").ask(), NONE);
        ThreeBelow one = Check.shoreOf("s1 1;d1;g4 100 0;");
        one.find(0, 0, 4);
        Check.due("one stay", one.stays(NONE), 1);
        Check.due("one stay is not parted", one.ask(), NONE);
        one.find(0, 0, 2);
        Check.due("no stay is left", one.stays(NONE), 0);
        Check.due("no stay is not parted", one.ask(), NONE);
        ThreeBelow two = Check.shoreOf("s1 1;d1;d1;g4 100 0;");
        two.find(1, 0, 1);
        Check.due("two stays", two.stays(NONE), 2);
        Check.due("two stays of like years", two.ask(), NONE);
        ThreeBelow last = Check.shoreOf("s1 1;d1;g4 0 0;g4 100 0;");
        Check.due("the last good alone parts", last.ask(), 1);
    }

    /** "THE BOOK (15 at most)"; "FULL (15)". */
    private static void bookAtMost15() {
        ThreeBelow x = Check.shoreOf("s1 1;p10 60;p20 60;");
        for (int i = 1; i <= 14; i++) {
            Check.due("write " + i, x.write(0, 10), i);
        }
        Check.due("write 15", x.write(1, 21), 15);
        Check.due("write 16", x.write(0, 11), FULL);
        Check.due("entries", x.told(12), 15);
        Check.due("the fifteenth is judged", x.judge(), 14);
        x.tear();
        Check.due("write behind tear", x.write(0, 10), 1);
    }

    /** "(0 .. 9999)". */
    private static void bookFrom0To9999() {
        ThreeBelow x = Check.shoreOf("s1 1;d1;p0 150;p0 150;");
        Check.due("write 0", x.write(0, 0), 1);
        Check.due("age 0 is so", x.judge(), NONE);
        x.down(1, 0);
        for (int i = 0; i < 33; i++) {
            x.year(300);
        }
        x.year(99);
        x.up(1);
        x.tear();
        Check.due("opened", x.open(1), 9999);
        Check.due("write 9999", x.write(1, 9999), 1);
        Check.due("age 9999 is so", x.judge(), NONE);
        x.undo();
        Check.due("shut, it is otherwise", x.judge(), 0);
    }

    private static void bookOfOneTwice() {
        ThreeBelow x = Check.shoreOf("s1 1;p10 60;");
        Check.due("write", x.write(0, 10), 1);
        Check.due("write again", x.write(0, 11), 2);
        Check.due("the second is otherwise", x.judge(), 1);
        x.year(1);
        Check.due("the first is otherwise", x.judge(), 0);
    }

    /** "WRONG: the first that is otherwise now". */
    private static void judgeFirstThatIsOtherwise() {
        for (int wrong = 0; wrong < 15; wrong++) {
            ThreeBelow x = Check.shoreOf("s1 1;p10 60;p20 60;p70 60;");
            for (int i = 0; i < 15; i++) {
                int age = new int[] {10, 20, 70}[i % 3];
                x.write(i % 3, i < wrong ? age : age - 1);
            }
            Check.due("the first that is otherwise", x.judge(), wrong);
        }
        ThreeBelow older = Check.shoreOf("s1 1;p10 60;");
        older.write(0, 11);
        Check.due("younger than written", older.judge(), 0);
    }

    private static void judgeNow() {
        ThreeBelow x = Check.shoreOf("s1 1;d1;p10 60;p59 60;");
        x.write(0, 12);
        x.write(1, 60);
        Check.due("at first", x.judge(), 0);
        x.year(1);
        Check.due("a year later", x.judge(), 0);
        x.year(1);
        Check.due("two years later, one dead at 60", x.judge(), NONE);
        x.down(0, 0);
        x.year(9);
        Check.due("below, not older", x.judge(), NONE);
        x.up(0);
        x.open(0);
        Check.due("opened", x.judge(), 0);
    }

    /** "NONE". */
    private static void judgeNone() {
        Check.due("no shore", new ThreeBelow().judge(), NONE);
        ThreeBelow x = Check.shoreOf("s1 1;p10 60;");
        Check.due("no book", x.judge(), NONE);
        for (int i = 0; i < 15; i++) {
            x.write(0, 10);
        }
        Check.due("all of fifteen are so", x.judge(), NONE);
    }

    /** "Nothing FOUND, THE BOOK is empty: how much both had." */
    private static void tearBoth() {
        ThreeBelow x = Check.shoreOf("s1 1;d1;p10 60;g4 100 0;");
        Check.due("nothing to tear", x.tear(), 0);
        for (int i = 0; i < 6; i++) {
            x.find(1, 0, 1);
        }
        Check.due("six found", x.tear(), 6);
        for (int i = 0; i < 15; i++) {
            x.write(0, 9);
        }
        Check.due("fifteen written", x.tear(), 15);
        for (int i = 0; i < 15; i++) {
            x.write(0, 9);
            x.find(1, 0, 1);
        }
        Check.due("both full", x.tear(), 21);
        Check.due("found", x.told(11), 0);
        Check.due("book", x.told(12), 0);
        Check.due("stays", x.stays(NONE), 31);
        Check.due("ask", x.ask(), 0);
        Check.due("judge", x.judge(), NONE);
        Check.due("nothing is left", x.tear(), 0);
        Check.due("no shore", new ThreeBelow().tear(), 0);
    }
}

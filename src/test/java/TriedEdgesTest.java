/** Section 3 of the document and promises 16 to 24: a test for each sentence that bounds what is tried. */
public final class TriedEdgesTest {
    private static final int NONE = ThreeBelow.NONE;

    public static void main(String[] args) {
        meetFor0To99Days();
        meetWhileTheFirstIsAlive();
        meetFewestOfLikeOnes();
        meetOlderFromLeastToMost();
        meetSecondIsNotOlderBelow();
        meetBoxesShut();
        bothFor1To9Days();
        bothNotAtAll();
        bothFewestYears();
        bothWhileAlive();
        bothFirstOfLikeOnes();
        bothFourAsOneNumber();
        bothNone();
        leaveFrom0To300Years();
        leaveLeastOfLikeOnes();
        leaveNone();
        leaveAllTaken();
        whenFrom0To300Years();
        whenWorthFrom0To9999();
        whenOfWhatRots();
        lettersAtTheEndOfADay();
        lettersFrom1To9();
        wouldOpenBelowAndAtL();
        yearsLeftFromLeastToMost();
        latestLeastOfLikeOnes();
        latestOfThoseAbove();
        latestOfSeven();
        latestNone();
        stormFrom0To60Years();
        stormFrom0To100OfAHundred();
        stormIsCutEachYear();
        Check.end();
    }

    private static void meets(String name, ThreeBelow x, int[] call, int days, int miss) {
        Check.due(name + ": days", x.meet(call[0], call[1], call[2], call[3], 0), days);
        Check.due(name + ": miss", x.meet(call[0], call[1], call[2], call[3], 1), miss);
    }

    private static int[] of(int p, int q, int d, int older) {
        return new int[] {p, q, d, older};
    }

    /** "whole DAYS (0 .. 99)". */
    private static void meetFor0To99Days() {
        ThreeBelow x = Check.shoreOf("s1 1;d1;p0 150;p50 60;");
        meets("0 days", x, of(0, 1, 0, -50), 0, 0);
        meets("less than 0 days", x, of(0, 1, 0, -51), 0, 1);
        meets("1 day", x, of(0, 1, 0, -49), 1, 0);
        meets("98 days", x, of(0, 1, 0, 48), 98, 0);
        meets("99 days", x, of(0, 1, 0, 49), 99, 0);
        meets("more than 99 days", x, of(0, 1, 0, 50), 99, 1);
    }

    /** "DAYS behind which the first is alive". */
    private static void meetWhileTheFirstIsAlive() {
        ThreeBelow x = Check.shoreOf("s1 1;d1;d3;d200;p0 150;p50 60;p10 11;");
        meets("a year ahead of L", x, of(1, 0, 0, 59), 9, 0);
        meets("at L", x, of(1, 0, 0, 60), 9, 1);
        meets("a year ahead of L, 3 a day", x, of(1, 0, 1, 60), 3, 1);
        meets("one year left", x, of(2, 0, 0, 199), 0, 189);
        meets("200 a day", x, of(0, 1, 2, 199), 0, 249);
    }

    /** "as near as can be to what is told; of like ones the fewest". */
    private static void meetFewestOfLikeOnes() {
        ThreeBelow x = Check.shoreOf("s1 1;d4;d5;p0 150;p50 60;");
        meets("2 off on both sides", x, of(0, 1, 0, -40), 2, 2);
        meets("nearer by fewer", x, of(0, 1, 0, -41), 2, 1);
        meets("nearer by more", x, of(0, 1, 0, -39), 3, 1);
        meets("5 a day, 2 off", x, of(0, 1, 1, -38), 2, 2);
        meets("5 a day, 3 off", x, of(0, 1, 1, -37), 3, 2);
    }

    /** "older -199 .. 199". */
    private static void meetOlderFromLeastToMost() {
        ThreeBelow x = Check.shoreOf("s1 1;d1;p0 150;p99 150;");
        meets("-199", x, of(0, 1, 0, -199), 0, 100);
        meets("-198", x, of(0, 1, 0, -198), 0, 99);
        meets("198", x, of(1, 0, 0, 198), 50, 49);
        meets("199", x, of(1, 0, 0, 199), 50, 50);
        meets("-199, the older first", x, of(1, 0, 0, -199), 0, 298);
        meets("199, the younger first", x, of(0, 1, 0, 199), 99, 199);
    }

    /** "the second goes down, the first stays": only the first is older then, and only he may die. */
    private static void meetSecondIsNotOlderBelow() {
        ThreeBelow x = Check.shoreOf("s1 1;d1;p0 150;p10 11;");
        meets("the second with one year left", x, of(0, 1, 0, 89), 99, 0);
    }

    private static void meetBoxesShut() {
        ThreeBelow x = Check.shoreOf("s1 1;d1;p10 90;p10 90;");
        x.down(0, 0);
        x.down(1, 0);
        x.year(20);
        x.up(0);
        x.year(5);
        x.up(1);
        meets("15 and 10 now", x, of(0, 1, 0, 6), 1, 0);
    }

    private static void meetBoth(String name, ThreeBelow x, int p, int q, int years, int four) {
        Check.due(name + ": years", x.both(p, q, 0), years);
        Check.due(name + ": the four", x.both(p, q, 1), four);
    }

    /** "for 1 to 9 DAYS". */
    private static void bothFor1To9Days() {
        ThreeBelow x = Check.shoreOf("s1 1;d10;p0 150;p10 150;p80 150;p90 150;p99 150;");
        meetBoth("1 day", x, 0, 1, 10, 11);
        meetBoth("1 day, turned", x, 1, 0, 10, 1100);
        meetBoth("8 days", x, 0, 2, 80, 18);
        meetBoth("9 days", x, 0, 3, 90, 19);
        meetBoth("9 days, turned", x, 3, 0, 90, 1900);
        meetBoth("9 days and 9 years", x, 0, 4, NONE, NONE);
        ThreeBelow y = Check.shoreOf("s1 1;d9;p0 150;p81 150;p90 150;");
        meetBoth("9 days of 9", y, 1, 0, 81, 1900);
        meetBoth("10 days of 9", y, 2, 0, NONE, NONE);
        meetBoth("10 days of 9, turned", y, 0, 2, NONE, NONE);
    }

    /** "or not at all (then DAYS are 0)". */
    private static void bothNotAtAll() {
        ThreeBelow x = Check.shoreOf("s1 1;d1;d2;p20 99;p20 30;p21 99;");
        meetBoth("just as old now", x, 0, 1, 0, 0);
        meetBoth("the first not at all", x, 0, 2, 1, 11);
        meetBoth("the second not at all", x, 2, 0, 1, 1100);
        ThreeBelow none = Check.shoreOf("s1 1;p20 99;p20 30;p21 99;");
        meetBoth("no depths, just as old", none, 0, 1, 0, 0);
        meetBoth("no depths, a year apart", none, 0, 2, NONE, NONE);
    }

    /** "fewest YEARS till then", when the later is up. */
    private static void bothFewestYears() {
        // 12 apart: 3 days of 4; 2 days of 10 less 2 of 4 comes later.
        ThreeBelow x = Check.shoreOf("s1 1;d10;d4;d3;p20 99;p32 99;p33 99;");
        meetBoth("12 apart", x, 0, 1, 12, 23);
        // 13 apart: 4 days of 4 less a day of 3; 3 days of 10 less what is 17 comes later, if at all.
        meetBoth("13 apart", x, 0, 2, 16, 3124);
        meetBoth("13 apart, turned", x, 2, 0, 16, 2431);
    }

    /** "both are alive": L less one is, L is not. */
    private static void bothWhileAlive() {
        ThreeBelow x = Check.shoreOf("s1 1;d9;p20 30;p20 29;p29 99;p29 30;");
        meetBoth("the younger lives at 29", x, 0, 2, 9, 11);
        meetBoth("the younger lives at 29, turned", x, 2, 0, 9, 1100);
        meetBoth("the younger is dead at 29", x, 1, 2, NONE, NONE);
        meetBoth("the younger is dead at 29, turned", x, 2, 1, NONE, NONE);
        meetBoth("both have a year left", x, 0, 3, 9, 11);
        // 1 apart by 3 and 2: the younger is below too and is up a year ahead of the older.
        ThreeBelow y = Check.shoreOf("s1 1;d3;d2;p20 22;p20 21;p21 22;");
        meetBoth("lives at 21", y, 0, 2, 3, 2111);
        meetBoth("dead at 21", y, 1, 2, NONE, NONE);
    }

    /** "of like ones the first (DEPTH of the first, its DAYS, DEPTH of the second, its DAYS)". */
    private static void bothFirstOfLikeOnes() {
        ThreeBelow x = Check.shoreOf("s1 1;d2;d4;d4;d1;p20 99;p24 99;");
        meetBoth("the least depth of the second, more days", x, 0, 1, 4, 12);
        meetBoth("the least depth of the first, more days", x, 1, 0, 4, 1200);
        ThreeBelow y = Check.shoreOf("s1 1;d4;d2;d1;d1;p20 99;p24 99;");
        meetBoth("the least depth of the second, fewer days", y, 0, 1, 4, 11);
        meetBoth("the least depth of the first, fewer days", y, 1, 0, 4, 1100);
        // 1 apart by 7 less 6: each 7 and each 6 can be had at two depths.
        ThreeBelow z = Check.shoreOf("s1 1;d7;d7;d6;d6;p20 99;p21 99;");
        meetBoth("the least depths of both", z, 0, 1, 7, 3111);
        meetBoth("the least depths of both, turned", z, 1, 0, 7, 1131);
    }

    /** "1000 times the DEPTH and 1, or 0; 100 times its DAYS; likewise 10 times, and DAYS, of the second". */
    private static void bothFourAsOneNumber() {
        ThreeBelow x = Check.shoreOf("s1 1;d100;d150;d199;d200;p0 150;p9 150;");
        meetBoth("9 days each at the last depths", x, 1, 0, 1800, 4939);
        meetBoth("9 days each at the last depths, turned", x, 0, 1, 1800, 3949);
        ThreeBelow y = Check.shoreOf("s1 1;d200;d200;d200;d11;p0 150;p99 150;");
        meetBoth("9 days at the last depth", y, 1, 0, 99, 4900);
        meetBoth("9 days at the last depth, turned", y, 0, 1, 99, 49);
    }

    /** "NONE". */
    private static void bothNone() {
        ThreeBelow x = Check.shoreOf("s1 1;d2;d4;d200;p20 99;p21 99;");
        meetBoth("odd by even stays", x, 0, 1, NONE, NONE);
        meetBoth("odd by even stays, turned", x, 1, 0, NONE, NONE);
    }

    /** "behind n YEARS (0 .. 300)". */
    private static void leaveFrom0To300Years() {
        ThreeBelow x = Check.shoreOf("s1 1;g100 1 9999;");
        int[][] due = {{0, 100}, {1, 101}, {299, 1160}, {300, 1171}};
        for (int[] d : due) {
            Check.due("leave(" + d[0] + ", 0)", x.leave(d[0], 0), 0);
            Check.due("leave(" + d[0] + ", 1)", x.leave(d[0], 1), d[1]);
        }
        x.year(1);
        Check.due("leave(300, 1) a year later", x.leave(300, 1), 1182);
    }

    /** "of like ones the least". */
    private static void leaveLeastOfLikeOnes() {
        ThreeBelow x = Check.shoreOf("s1 1;g100 0 0;g110 0 0;g100 10 110;g110 0 0;g121 60 0;");
        Check.due("now, one is most", x.leave(0, 0), 4);
        Check.due("three are like behind a year", x.leave(1, 0), 1);
        Check.due("their worth", x.leave(1, 1), 110);
        x.take(1);
        Check.due("two are like", x.leave(1, 0), 2);
        ThreeBelow all = Check.shoreOf("s1 1;" + "g7 0 0;".repeat(6));
        Check.due("all are like", all.leave(300, 0), 0);
    }

    /** "NONE: no GOODS." */
    private static void leaveNone() {
        for (int what = 0; what <= 1; what++) {
            Check.due("no shore, what " + what, new ThreeBelow().leave(0, what), NONE);
            Check.due("no goods, now, what " + what, Check.shoreOf("s1 1;d1;p0 1;").leave(0, what), NONE);
            Check.due("no goods, 300 years, what " + what, Check.shoreOf("s1 1;d1;p0 1;").leave(300, what), NONE);
        }
    }

    /** Goods that are taken are GOODS still: take() of one is NOT, and not UNKNOWN. */
    private static void leaveAllTaken() {
        ThreeBelow x = Check.shoreOf("s1 1;g100 1 9999;g9 0 0;");
        x.take(0);
        Check.due("one left", x.leave(300, 0), 1);
        x.take(1);
        Check.due("all taken", x.leave(300, 0), 0);
        Check.due("all taken, worth", x.leave(300, 1), 0);
    }

    /** "the fewest YEARS (0 .. 300)". */
    private static void whenFrom0To300Years() {
        ThreeBelow x = Check.shoreOf("s1 1;g100 1 9999;");
        Check.due("now", x.when(0, 100), 0);
        Check.due("less than now", x.when(0, 99), 0);
        Check.due("a year", x.when(0, 101), 1);
        Check.due("299 years", x.when(0, 1160), 299);
        Check.due("a bit more than 299 years", x.when(0, 1161), 300);
        Check.due("300 years", x.when(0, 1171), 300);
        Check.due("a bit more than 300 years", x.when(0, 1172), NONE);
        x.year(1);
        Check.due("300 years from then", x.when(0, 1182), 300);
        Check.due("a bit more from then", x.when(0, 1183), NONE);
    }

    /** "worth v (0 .. 9999) or more". */
    private static void whenWorthFrom0To9999() {
        ThreeBelow x = Check.shoreOf("s1 1;g963 34 9999;g963 34 9998;");
        Check.due("0", x.when(0, 0), 0);
        Check.due("9999", x.when(0, 9999), 8);
        Check.due("7463, up to 9999", x.when(0, 7463), 8);
        Check.due("7462", x.when(0, 7462), 7);
        Check.due("7462, M 9998", x.when(1, 7462), 7);
        Check.due("7463, M 9998", x.when(1, 7463), NONE);
        Check.due("9999, M 9998", x.when(1, 9999), NONE);
        x.take(0);
        Check.due("0, taken", x.when(0, 0), 0);
        Check.due("1, taken", x.when(0, 1), NONE);
    }

    private static void whenOfWhatRots() {
        ThreeBelow x = Check.shoreOf("s1 1;g100 60 9999;");
        Check.due("as much as now", x.when(0, 100), 0);
        Check.due("more than now", x.when(0, 101), NONE);
        x.year(1);
        Check.due("as much as it was", x.when(0, 91), NONE);
        Check.due("as much as it is", x.when(0, 90), 0);
    }

    /** "at the end of the DAY in which it comes (DAYS there begin at YEARS that R goes into)". */
    private static void lettersAtTheEndOfADay() {
        ThreeBelow x = Check.shoreOf("s1 1;d4;d1;d200;");
        int[] due = {4, 3, 2, 1, 4, 3};
        for (int years = 0; years < due.length; years++) {
            Check.due("4 a day, at " + years, x.letters(0, 1), due[years]);
            Check.due("1 a day, at " + years, x.letters(1, 1), 1);
            Check.due("200 a day, at " + years, x.letters(2, 1), 200 - years);
            x.year(1);
        }
        x.year(193);
        Check.due("200 a day, at 199", x.letters(2, 1), 1);
        x.year(1);
        Check.due("200 a day, at 200", x.letters(2, 1), 200);
    }

    /** "the n-th answer (1 .. 9)": "then the next letter is sent". */
    private static void lettersFrom1To9() {
        ThreeBelow x = Check.shoreOf("s1 1;d4;d1;d200;");
        for (int n = 1; n <= 9; n++) {
            Check.due("4 a day, answer " + n, x.letters(0, n), 4 * n);
            Check.due("1 a day, answer " + n, x.letters(1, n), n);
            Check.due("200 a day, answer " + n, x.letters(2, n), 200 * n);
        }
        x.year(7);
        for (int n = 1; n <= 9; n++) {
            Check.due("4 a day, at 7, answer " + n, x.letters(0, n), 4 * n - 3);
            Check.due("1 a day, at 7, answer " + n, x.letters(1, n), n);
            Check.due("200 a day, at 7, answer " + n, x.letters(2, n), 200 * n - 7);
        }
    }

    /** "how old he would be; NONE: dead by it". */
    private static void wouldOpenBelowAndAtL() {
        for (int years = 48; years <= 51; years++) {
            ThreeBelow x = Check.shoreOf("s1 1;d1;p10 60;p59 60;");
            x.down(0, 0);
            x.down(1, 0);
            x.year(years);
            x.up(0);
            Check.due("wouldOpen, " + years, x.wouldOpen(0), years < 50 ? 10 + years : NONE);
        }
        Check.due("wouldOpen, empty", Check.shoreOf("s1 1;p59 60;").wouldOpen(0), 59);
        Check.due("wouldOpen, empty, age 0", Check.shoreOf("s1 1;p0 1;").wouldOpen(0), 0);
    }

    /** "YEARS LEFT of a PERSON above, the box shut: L less his age." */
    private static void yearsLeftFromLeastToMost() {
        ThreeBelow x = Check.shoreOf("s1 1;d1;p0 150;p99 100;p0 1;");
        Check.due("most", x.yearsLeft(0), 150);
        Check.due("least", x.yearsLeft(1), 1);
        Check.due("least, a child", x.yearsLeft(2), 1);
        x.down(1, 0);
        x.year(300);
        x.up(1);
        Check.due("300 in the box", x.yearsLeft(1), 1);
        x.year(1);
        Check.due("dead", x.yearsLeft(1), ThreeBelow.NOT);
    }

    /** "of like ones the least". */
    private static void latestLeastOfLikeOnes() {
        Check.due("all like", Check.shoreOf("s1 1;p0 10;p5 15;p99 109;").latest(), 0);
        Check.due("two like behind one", Check.shoreOf("s1 1;p0 9;p5 15;p99 109;").latest(), 1);
        Check.due("the last has a year more", Check.shoreOf("s1 1;p0 10;p5 15;p99 110;").latest(), 2);
        Check.due("one year left each", Check.shoreOf("s1 1;p0 1;p98 99;").latest(), 0);
    }

    /** "who of all above": not who is below or dead, whatever is in a box. */
    private static void latestOfThoseAbove() {
        ThreeBelow x = Check.shoreOf("s1 1;d1;p90 91;p0 150;p0 100;p99 99;");
        Check.due("all above", x.latest(), 1);
        x.down(1, 0);
        Check.due("one below", x.latest(), 2);
        x.down(2, 0);
        Check.due("one with a year left", x.latest(), 0);
        x.year(1);
        x.up(2);
        Check.due("a box is shut", x.latest(), 2);
    }

    /** "7 PERSONS at most": the last of them counts, and nobody of an older shore. */
    private static void latestOfSeven() {
        ThreeBelow x = Check.shoreOf("s1 1;p1 90;" + "p20 90;".repeat(5) + "p0 90;");
        Check.due("the last of seven", x.latest(), 6);
        Check.feedAll(x, "s1 1;p80 90;");
        x.shore();
        Check.due("one alone on a new shore", x.latest(), 0);
        Check.feedAll(x, "s1 1;p80 90;");
        x.shore();
        Check.due("one alone on a newer shore", x.latest(), 0);
    }

    /** "NONE: nobody is." */
    private static void latestNone() {
        Check.due("no shore", new ThreeBelow().latest(), NONE);
        Check.due("no persons", Check.shoreOf("s1 1;d1;g1 0 0;").latest(), NONE);
        Check.due("all told to be dead", Check.shoreOf("s1 1;p1 1;p99 1;").latest(), NONE);
        ThreeBelow x = Check.shoreOf("s1 1;d1;p10 60;p59 60;");
        x.down(0, 0);
        x.year(1);
        Check.due("one below, one dead", x.latest(), NONE);
    }

    /** "none in n YEARS (0 .. 60)". */
    private static void stormFrom0To60Years() {
        ThreeBelow x = new ThreeBelow();
        Check.due("0 years", x.storm(0, 37), 1000000000);
        Check.due("1 year", x.storm(1, 37), 630000000);
        Check.due("59 years", x.storm(59, 1), 552683455);
        Check.due("60 years", x.storm(60, 1), 547156620);
    }

    /** "q 0 .. 100". */
    private static void stormFrom0To100OfAHundred() {
        ThreeBelow x = new ThreeBelow();
        Check.due("0 of a hundred, 1 year", x.storm(1, 0), 1000000000);
        Check.due("0 of a hundred, 60 years", x.storm(60, 0), 1000000000);
        Check.due("100 of a hundred, no year", x.storm(0, 100), 1000000000);
        Check.due("100 of a hundred, 1 year", x.storm(1, 100), 0);
        Check.due("100 of a hundred, 60 years", x.storm(60, 100), 0);
        Check.due("99 of a hundred, 1 year", x.storm(1, 99), 10000000);
    }

    /** "a BILLION times (100 less q) / 100 each (cut)". */
    private static void stormIsCutEachYear() {
        ThreeBelow x = new ThreeBelow();
        Check.due("99 of a hundred, 4 years", x.storm(4, 99), 10);
        Check.due("99 of a hundred, 5 years", x.storm(5, 99), 0);
        Check.due("50 of a hundred, 9 years", x.storm(9, 50), 1953125);
        Check.due("50 of a hundred, 10 years", x.storm(10, 50), 976562);
        Check.due("50 of a hundred, 29 years", x.storm(29, 50), 1);
        Check.due("50 of a hundred, 30 years", x.storm(30, 50), 0);
    }
}

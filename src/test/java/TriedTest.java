/** Promises 16 to 24: meet, both, leave, when, letters, wouldOpen, yearsLeft, latest, storm. */
public final class TriedTest {
    private static final int NONE = ThreeBelow.NONE;
    private static final int UNKNOWN = ThreeBelow.UNKNOWN;
    private static final int OUTSIDE = ThreeBelow.OUTSIDE;
    private static final int NOT = ThreeBelow.NOT;

    public static void main(String[] args) {
        meet();
        meetRefused();
        both();
        bothFirstOfLikeOnes();
        bothAlive();
        bothRefused();
        leave();
        when();
        letters();
        wouldOpen();
        yearsLeft();
        latest();
        storm();
        nothingChanges();
        Check.end();
    }

    private static void meet() {
        ThreeBelow x = Check.shoreOf("s5 7;d4;d1;p20 60;p30 70;p0 150;");
        Check.due("as old, 4 a day: days", x.meet(0, 1, 0, 0, 0), 2);
        Check.due("as old, 4 a day: miss", x.meet(0, 1, 0, 0, 1), 2);
        Check.due("as old, 1 a day: days", x.meet(0, 1, 1, 0, 0), 10);
        Check.due("as old, 1 a day: miss", x.meet(0, 1, 1, 0, 1), 0);
        Check.due("of like ones the fewest", x.meet(0, 1, 0, -8, 0), 0);
        Check.due("of like ones, miss", x.meet(0, 1, 0, -8, 1), 2);
        Check.due("alive at 59 alone", x.meet(0, 1, 1, 30, 0), 39);
        Check.due("alive at 59 alone, miss", x.meet(0, 1, 1, 30, 1), 1);
        Check.due("just alive", x.meet(0, 1, 1, 29, 1), 0);
        Check.due("alive by fours", x.meet(0, 1, 0, 199, 0), 9);
        Check.due("alive by fours, miss", x.meet(0, 1, 0, 199, 1), 173);
        Check.due("never so young", x.meet(1, 0, 0, -199, 0), 0);
        Check.due("never so young, miss", x.meet(1, 0, 0, -199, 1), 209);
        Check.due("99 days at most", x.meet(2, 0, 1, 100, 0), 99);
        Check.due("99 days at most, miss", x.meet(2, 0, 1, 100, 1), 21);
        Check.due("the second may be old", x.meet(2, 1, 1, 0, 0), 30);
        x.year(5);
        Check.due("from now", x.meet(2, 0, 1, 0, 0), 20);
    }

    private static void meetRefused() {
        ThreeBelow x = Check.shoreOf("s5 7;d4;p20 60;p30 70;p60 60;p10 80;");
        Check.due("meet(4, 1, ..)", x.meet(4, 1, 0, 0, 0), UNKNOWN);
        Check.due("meet(0, -1, ..)", x.meet(0, -1, 0, 0, 0), UNKNOWN);
        Check.due("meet(0, 4, ..)", x.meet(0, 4, 0, 0, 0), UNKNOWN);
        Check.due("meet(-1, 0, ..)", x.meet(-1, 0, 0, 0, 0), UNKNOWN);
        Check.due("meet(0, 0, ..)", x.meet(0, 0, 0, 0, 0), UNKNOWN);
        Check.due("meet, depth 1", x.meet(0, 1, 1, 0, 0), UNKNOWN);
        Check.due("meet, depth -1", x.meet(0, 1, -1, 200, 0), UNKNOWN);
        Check.due("meet, 200 older", x.meet(0, 1, 0, 200, 0), OUTSIDE);
        Check.due("meet, -200 older", x.meet(0, 1, 0, -200, 0), OUTSIDE);
        Check.due("meet, what 2", x.meet(0, 1, 0, 0, 2), OUTSIDE);
        Check.due("meet, what -1", x.meet(0, 1, 0, 0, -1), OUTSIDE);
        Check.due("meet, dead and outside", x.meet(0, 2, 0, 0, 2), OUTSIDE);
        Check.due("meet, the second dead", x.meet(0, 2, 0, 0, 0), NOT);
        Check.due("meet, the first dead", x.meet(2, 0, 0, 0, 0), NOT);
        x.down(3, 0);
        Check.due("meet, the second below", x.meet(0, 3, 0, 0, 0), NOT);
        Check.due("meet, the first below", x.meet(3, 0, 0, 0, 0), NOT);
    }

    private static void both() {
        ThreeBelow x = Check.shoreOf("s5 7;d7;d5;p20 99;p20 99;p23 99;p34 99;");
        Check.due("as old now", x.both(0, 1, 0), 0);
        Check.due("as old now, the four", x.both(0, 1, 1), 0);
        // 3 years apart: the older is below for 10 years, the younger for 7.
        Check.due("3 apart", x.both(2, 0, 0), 10);
        Check.due("3 apart, the four", x.both(2, 0, 1), 2211);
        Check.due("3 apart, turned", x.both(0, 2, 0), 10);
        Check.due("3 apart, turned, the four", x.both(0, 2, 1), 1122);
        Check.due("14 apart", x.both(3, 0, 0), 14);
        Check.due("14 apart, the four", x.both(3, 0, 1), 1200);
        Check.due("14 apart, turned, the four", x.both(0, 3, 1), 12);
        ThreeBelow far = Check.shoreOf("s5 7;d10;p0 150;p90 150;p91 150;");
        Check.due("9 days at most", far.both(1, 0, 0), 90);
        Check.due("9 days at most, the four", far.both(1, 0, 1), 1900);
        Check.due("9 days at most, turned", far.both(0, 1, 0), 90);
        Check.due("9 days at most, turned, the four", far.both(0, 1, 1), 19);
        Check.due("more than 9 days", far.both(2, 0, 0), NONE);
        Check.due("more than 9 days, the four", far.both(2, 0, 1), NONE);
        ThreeBelow none = Check.shoreOf("s5 7;p0 150;p0 150;p1 150;");
        Check.due("no depths, as old", none.both(0, 1, 1), 0);
        Check.due("no depths, not as old", none.both(0, 2, 0), NONE);
    }

    private static void bothFirstOfLikeOnes() {
        ThreeBelow x = Check.shoreOf("s5 7;d4;d2;d2;d1;p20 99;p24 99;");
        Check.due("4 apart", x.both(0, 1, 0), 4);
        Check.due("the first stays, the least depth", x.both(0, 1, 1), 11);
        Check.due("turned: the least depth", x.both(1, 0, 1), 1100);
        ThreeBelow y = Check.shoreOf("s5 7;d200;d3;d3;d1;p20 99;p23 99;");
        Check.due("the lesser of like depths", y.both(0, 1, 1), 21);
        Check.due("the lesser of like depths, turned", y.both(1, 0, 1), 2100);
        // 2 years apart by 5 and 3 alone: 5 less 3.
        ThreeBelow z = Check.shoreOf("s5 7;d5;d3;p20 99;p22 99;");
        Check.due("5 less 3: years", z.both(0, 1, 0), 5);
        Check.due("5 less 3", z.both(0, 1, 1), 2111);
        Check.due("5 less 3, turned", z.both(1, 0, 1), 1121);
    }

    private static void bothAlive() {
        // The younger must live to 30 above, and die at 30 and 31.
        ThreeBelow x = Check.shoreOf("s5 7;d1;p20 30;p20 31;p29 99;p30 99;p20 150;");
        Check.due("lives at 29", x.both(0, 2, 0), 9);
        Check.due("dead at 30", x.both(0, 3, 0), NONE);
        Check.due("dead at 30, turned", x.both(3, 0, 0), NONE);
        Check.due("10 years are too many", x.both(1, 3, 0), NONE);
        ThreeBelow y = Check.shoreOf("s5 7;d2;p20 30;p20 31;p30 99;p28 29;p20 29;");
        Check.due("dead at 30", y.both(2, 0, 0), NONE);
        Check.due("dead at 30, turned", y.both(0, 2, 0), NONE);
        Check.due("lives at 30", y.both(2, 1, 0), 10);
        Check.due("lives at 30, turned", y.both(1, 2, 0), 10);
        Check.due("both live at 28", y.both(3, 4, 0), 8);
        // The box stays shut: its years do not count.
        ThreeBelow z = Check.shoreOf("s5 7;d2;p20 90;p20 90;");
        z.down(0, 0);
        z.year(4);
        z.up(0);
        Check.due("4 apart by a stay", z.both(0, 1, 0), 4);
        Check.due("4 apart by a stay, the four", z.both(0, 1, 1), 12);
    }

    private static void bothRefused() {
        ThreeBelow x = Check.shoreOf("s5 7;d4;p20 60;p30 70;p60 60;p10 80;");
        Check.due("both(4, 1, 0)", x.both(4, 1, 0), UNKNOWN);
        Check.due("both(-1, 1, 0)", x.both(-1, 1, 0), UNKNOWN);
        Check.due("both(0, 4, 0)", x.both(0, 4, 0), UNKNOWN);
        Check.due("both(0, -1, 0)", x.both(0, -1, 0), UNKNOWN);
        Check.due("both(1, 1, 5)", x.both(1, 1, 5), UNKNOWN);
        Check.due("both(0, 1, 2)", x.both(0, 1, 2), OUTSIDE);
        Check.due("both(0, 2, -1)", x.both(0, 2, -1), OUTSIDE);
        Check.due("both, the second dead", x.both(0, 2, 0), NOT);
        Check.due("both, the first dead", x.both(2, 0, 1), NOT);
        x.down(3, 0);
        Check.due("both, the second below", x.both(0, 3, 0), NOT);
        Check.due("both, the first below", x.both(3, 0, 0), NOT);
    }

    private static void leave() {
        ThreeBelow x = Check.shoreOf("s5 7;g100 10 9999;g120 0 9999;g120 0 0;g130 60 0;");
        Check.due("leave(-1, 0)", x.leave(-1, 0), OUTSIDE);
        Check.due("leave(301, 0)", x.leave(301, 0), OUTSIDE);
        Check.due("leave(0, 2)", x.leave(0, 2), OUTSIDE);
        Check.due("leave(0, -1)", x.leave(0, -1), OUTSIDE);
        Check.due("leave(301, 0), no shore", new ThreeBelow().leave(301, 0), OUTSIDE);
        Check.due("leave(300, 0), no shore", new ThreeBelow().leave(300, 0), NONE);
        Check.due("leave(300, 1), no shore", new ThreeBelow().leave(300, 1), NONE);
        Check.due("leave(0, 0)", x.leave(0, 0), 3);
        Check.due("leave(0, 1)", x.leave(0, 1), 130);
        Check.due("of like ones the least", x.leave(1, 0), 1);
        Check.due("of like ones, worth", x.leave(1, 1), 120);
        Check.due("leave(2, 0)", x.leave(2, 0), 0);
        Check.due("leave(2, 1)", x.leave(2, 1), 121);
        Check.due("leave(300, 0)", x.leave(300, 0), 0);
        x.take(0);
        Check.due("leave, one taken", x.leave(300, 0), 1);
        x.take(1);
        x.take(2);
        x.year(1);
        Check.due("leave from now", x.leave(0, 1), 117);
        x.take(3);
        Check.due("leave, all taken", x.leave(9, 0), 0);
        Check.due("leave, all taken, worth", x.leave(9, 1), 0);
        ThreeBelow slow = Check.shoreOf("s1 1;g100 1 9999;");
        // 100 years of one more, 50 of two, 34 of three, 25 of four, 20 of five, 17 of six, 15 of seven, 13 of eight, 12, 10, 4.
        Check.due("leave(100, 1)", slow.leave(100, 1), 200);
        Check.due("leave(150, 1)", slow.leave(150, 1), 300);
        Check.due("leave(184, 1)", slow.leave(184, 1), 402);
    }

    private static void when() {
        ThreeBelow x = Check.shoreOf("s5 7;g100 1 9999;g50 60 100;g100 10 120;");
        Check.due("when(3, 0)", x.when(3, 0), UNKNOWN);
        Check.due("when(-1, 0)", x.when(-1, 0), UNKNOWN);
        Check.due("when(3, -1)", x.when(3, -1), UNKNOWN);
        Check.due("when(0, -1)", x.when(0, -1), OUTSIDE);
        Check.due("when(0, 10000)", x.when(0, 10000), OUTSIDE);
        Check.due("when(0, 0)", x.when(0, 0), 0);
        Check.due("when(0, 100)", x.when(0, 100), 0);
        Check.due("when(0, 101)", x.when(0, 101), 1);
        Check.due("when(0, 200)", x.when(0, 200), 100);
        Check.due("when(0, 201)", x.when(0, 201), 101);
        Check.due("when(0, 300)", x.when(0, 300), 150);
        Check.due("when(0, 301)", x.when(0, 301), 151);
        Check.due("when(0, 9999)", x.when(0, 9999), NONE);
        int most = x.leave(300, 1);
        int before = x.leave(299, 1);
        Check.due("when, the 300th year", x.when(0, most), most > before ? 300 : 0);
        Check.due("when, behind 300 years", x.when(0, most + 1), NONE);
        Check.due("when(1, 50)", x.when(1, 50), 0);
        Check.due("when(1, 51)", x.when(1, 51), NONE);
        Check.due("when(2, 110)", x.when(2, 110), 1);
        Check.due("when(2, 111)", x.when(2, 111), NONE);
        x.year(40);
        Check.due("when from now", x.when(0, 200), 60);
        x.take(0);
        Check.due("when, taken", x.when(0, 1), NONE);
        Check.due("when, taken, 0", x.when(0, 0), 0);
    }

    private static void letters() {
        ThreeBelow x = Check.shoreOf("s5 7;d4;d1;d200;");
        Check.due("letters(3, 1)", x.letters(3, 1), UNKNOWN);
        Check.due("letters(-1, 0)", x.letters(-1, 0), UNKNOWN);
        Check.due("letters(0, 0)", x.letters(0, 0), OUTSIDE);
        Check.due("letters(0, 10)", x.letters(0, 10), OUTSIDE);
        Check.due("letters(0, 1)", x.letters(0, 1), 4);
        Check.due("letters(0, 9)", x.letters(0, 9), 36);
        x.year(3);
        Check.due("at 3", x.letters(0, 1), 1);
        Check.due("at 3, second", x.letters(0, 2), 5);
        Check.due("at 3, 1 a day", x.letters(1, 1), 1);
        Check.due("at 3, 1 a day, ninth", x.letters(1, 9), 9);
        Check.due("at 3, 200 a day", x.letters(2, 2), 397);
        x.year(1);
        Check.due("as a day begins", x.letters(0, 1), 4);
    }

    private static void wouldOpen() {
        ThreeBelow x = Check.shoreOf("s5 7;d4;p20 30;p30 30;");
        Check.due("wouldOpen(2)", x.wouldOpen(2), UNKNOWN);
        Check.due("wouldOpen(-1)", x.wouldOpen(-1), UNKNOWN);
        Check.due("wouldOpen, dead", x.wouldOpen(1), NOT);
        Check.due("wouldOpen, empty", x.wouldOpen(0), 20);
        x.down(0, 0);
        x.year(9);
        Check.due("wouldOpen, below", x.wouldOpen(0), NOT);
        x.up(0);
        Check.due("wouldOpen, 9", x.wouldOpen(0), 29);
        Check.due("age", x.person(0, 0), 20);
        Check.due("box", x.person(0, 3), 9);
        x.down(0, 0);
        x.year(1);
        x.up(0);
        Check.due("wouldOpen, 10", x.wouldOpen(0), NONE);
        Check.due("lives", x.person(0, 2), 0);
    }

    private static void yearsLeft() {
        ThreeBelow x = Check.shoreOf("s5 7;d4;p20 30;p30 30;");
        Check.due("yearsLeft(2)", x.yearsLeft(2), UNKNOWN);
        Check.due("yearsLeft(-1)", x.yearsLeft(-1), UNKNOWN);
        Check.due("yearsLeft, dead", x.yearsLeft(1), NOT);
        Check.due("yearsLeft", x.yearsLeft(0), 10);
        x.year(2);
        Check.due("yearsLeft", x.yearsLeft(0), 8);
        x.down(0, 0);
        Check.due("yearsLeft, below", x.yearsLeft(0), NOT);
        x.year(100);
        x.up(0);
        Check.due("yearsLeft, the box shut", x.yearsLeft(0), 8);
        x.year(7);
        Check.due("yearsLeft, one", x.yearsLeft(0), 1);
    }

    private static void latest() {
        ThreeBelow x = Check.shoreOf("s5 7;d4;p20 30;p60 71;p9 20;p90 90;p29 30;");
        Check.due("latest", x.latest(), 1);
        x.down(1, 0);
        Check.due("latest, one below", x.latest(), 2);
        x.down(2, 0);
        Check.due("latest, two below", x.latest(), 0);
        x.year(1);
        Check.due("latest at 1", x.latest(), 0);
        x.up(2);
        Check.due("latest, one up", x.latest(), 2);
        x.year(9);
        Check.due("latest, others dead", x.latest(), 2);
        x.year(2);
        Check.due("latest, all dead or below", x.latest(), NONE);
        x.up(1);
        Check.due("latest, one up of all", x.latest(), 1);
        ThreeBelow like = Check.shoreOf("s5 7;p20 30;p5 15;p2 12;");
        Check.due("of like ones the least", like.latest(), 0);
    }

    private static void storm() {
        ThreeBelow x = new ThreeBelow();
        Check.due("storm(-1, 0)", x.storm(-1, 0), OUTSIDE);
        Check.due("storm(61, 0)", x.storm(61, 0), OUTSIDE);
        Check.due("storm(0, -1)", x.storm(0, -1), OUTSIDE);
        Check.due("storm(0, 101)", x.storm(0, 101), OUTSIDE);
        Check.due("storm(0, 50)", x.storm(0, 50), 1000000000);
        Check.due("storm(60, 0)", x.storm(60, 0), 1000000000);
        Check.due("storm(1, 100)", x.storm(1, 100), 0);
        Check.due("storm(1, 1)", x.storm(1, 1), 990000000);
        Check.due("storm(9, 50)", x.storm(9, 50), 1953125);
        Check.due("storm(10, 50)", x.storm(10, 50), 976562);
        Check.due("storm(11, 50)", x.storm(11, 50), 488281);
        // 970299000, 960596010, 950990049, 941480148.51 cut, 932065346.52 cut.
        Check.due("storm(5, 1)", x.storm(5, 1), 950990049);
        Check.due("storm(6, 1)", x.storm(6, 1), 941480148);
        Check.due("storm(7, 1)", x.storm(7, 1), 932065346);
        Check.due("storm(60, 99)", x.storm(60, 99), 0);
        Check.due("storm(4, 99)", x.storm(4, 99), 10);
    }

    private static void nothingChanges() {
        ThreeBelow x = Check.shoreOf("s5 7;d4;d3;p20 60;p30 70;g100 10 900;");
        x.seed(12);
        x.year(3);
        x.meet(0, 1, 0, 5, 0);
        x.both(0, 1, 1);
        x.leave(200, 1);
        x.when(0, 900);
        x.letters(1, 5);
        x.wouldOpen(0);
        x.yearsLeft(1);
        x.latest();
        x.storm(5, 5);
        x.stays(NONE);
        x.ask();
        x.judge();
        Check.due("years", x.told(6), 3);
        Check.due("ages", x.person(0, 0) + x.person(1, 0), 56);
        Check.due("above", x.told(8) + x.told(9), 0);
        Check.due("worth", x.good(0, 0), 133);
        Check.due("seed", x.seed(0), 12);
        Check.due("can be undone", x.told(13), 1);
    }
}

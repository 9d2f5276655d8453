/** Promises 1 to 8: a new object, feed, shore, fault, told, depth, person, good. */
public final class ShoreTest {
    private static final int NONE = ThreeBelow.NONE;
    private static final int UNKNOWN = ThreeBelow.UNKNOWN;
    private static final int OUTSIDE = ThreeBelow.OUTSIDE;
    private static final int NOT = ThreeBelow.NOT;
    private static final int FULL = ThreeBelow.FULL;

    public static void main(String[] args) {
        newObject();
        feed();
        shoreThatStands();
        textsWithoutAClause();
        shoreBeginsAnew();
        shoresInARow();
        faultLeavesAllElse();
        faultsOfPlace();
        faultsOfNumbers();
        faultsOfTooMany();
        boundsThatStand();
        told();
        toldSets();
        depth();
        person();
        personsApart();
        good();
        Check.end();
    }

    private static void newObject() {
        ThreeBelow x = new ThreeBelow();
        for (int what = 0; what <= 13; what++) {
            Check.due("new told(" + what + ")", x.told(what), 0);
        }
        Check.due("new fault", x.fault(), NONE);
        Check.due("new depth", x.depth(0), UNKNOWN);
        Check.due("new person", x.person(0, 0), UNKNOWN);
        Check.due("new good", x.good(0, 0), UNKNOWN);
        Check.due("new year", x.year(1), NOT);
        Check.due("new drift", x.drift(1), NOT);
        Check.due("new down", x.down(0, 0), UNKNOWN);
        Check.due("new goBack", x.goBack(0), NOT);
        Check.due("new seed", x.seed(0), 0);
        Check.due("new leave", x.leave(0, 1), NONE);
        Check.due("new latest", x.latest(), NONE);
        Check.due("new stays", x.stays(NONE), 0);
        Check.due("new find of kings", x.find(1, 0, 0), 1);
        Check.due("new stays with a find", x.stays(NONE), 0);
        Check.due("new ask", x.ask(), NONE);
        Check.due("new judge", x.judge(), NONE);
        Check.due("new undo", x.undo(), NOT);
    }

    private static void feed() {
        ThreeBelow x = new ThreeBelow();
        Check.due("feed(-1)", x.feed(-1), OUTSIDE);
        Check.due("feed(256)", x.feed(256), OUTSIDE);
        Check.due("feed(0)", x.feed(0), 1);
        Check.due("feed(255)", x.feed(255), 2);
        for (int i = 3; i <= 240; i++) {
            Check.due("feed of letter " + i, x.feed(32), i);
        }
        Check.due("feed, full", x.feed(32), FULL);
        Check.due("feed, full and outside", x.feed(256), OUTSIDE);
        Check.due("told(5)", x.told(5), 240);
        Check.due("shore", x.shore(), -11);
        Check.due("fault", x.fault(), 0);
        Check.due("told(5) behind shore", x.told(5), 0);
        Check.due("feed behind shore", x.feed(115), 1);
    }

    private static void shoreThatStands() {
        ThreeBelow x = new ThreeBelow();
        Check.feedAll(x, "  s 5   7 ;p 1 2;d3 ; g 4 5 0006;p3 4 ; d 0010;  ");
        Check.due("shore", x.shore(), 2);
        Check.due("fault", x.fault(), NONE);
        Check.due("D", x.told(0), 5);
        Check.due("K", x.told(1), 7);
        Check.due("depths", x.told(2), 2);
        Check.due("persons", x.told(3), 2);
        Check.due("goods", x.told(4), 1);
        Check.due("text", x.told(5), 0);
        Check.due("depth(0)", x.depth(0), 3);
        Check.due("depth(1)", x.depth(1), 10);
        Check.due("person(0, 0)", x.person(0, 0), 1);
        Check.due("person(1, 1)", x.person(1, 1), 4);
        Check.due("good(0, 1)", x.good(0, 1), 4);
        Check.due("good(0, 2)", x.good(0, 2), 5);
        Check.due("good(0, 3)", x.good(0, 3), 6);
        ThreeBelow bare = Check.shoreOf("s1 1;");
        Check.due("bare year", bare.year(1), 1);
        Check.due("bare drift", bare.drift(60), 61);
        Check.due("bare seed stays", bare.seed(1), 0);
    }

    private static void textsWithoutAClause() {
        textWithoutAClause("");
        textWithoutAClause(" ");
        textWithoutAClause("   ");
        textWithoutAClause(" ".repeat(240));
    }

    private static void textWithoutAClause(String text) {
        Check.due("a new object's shore of " + text.length() + " blanks", shoreOf(new ThreeBelow(), text), 0);
        ThreeBelow x = Check.shoreOf("s5 7;d3;p10 60;g4 5 6;");
        x.year(3);
        x.keep(0);
        x.year(3);
        x.find(1, 0, 0);
        x.write(0, 1);
        x.seed(77);
        Check.due("shore with a fault", shoreOf(x, "x"), -11);
        Check.due("fault", x.fault(), 0);
        Check.due("shore of " + text.length() + " blanks", shoreOf(x, text), 0);
        Check.due("no fault", x.fault(), NONE);
        Check.due("no shore: seed stays", x.seed(0), 77);
        for (int what = 0; what <= 13; what++) {
            Check.due("no shore: told(" + what + ")", x.told(what), 0);
        }
        Check.due("no shore: year", x.year(1), NOT);
        Check.due("no shore: goBack", x.goBack(0), NOT);
        Check.due("no shore: depth", x.depth(0), UNKNOWN);
        Check.due("no shore: person", x.person(0, 0), UNKNOWN);
        Check.due("no shore: good", x.good(0, 0), UNKNOWN);
        Check.due("no shore: keep", x.keep(1), 1);
        Check.due("no shore: goBack to it", x.goBack(1), 1);
    }

    private static void shoreBeginsAnew() {
        ThreeBelow x = Check.shoreOf("s5 7;d3;p10 60;g100 10 9999;");
        x.down(0, 0);
        x.year(4);
        x.keep(0);
        x.up(0);
        x.take(0);
        x.find(0, 0, 7);
        x.write(0, 3);
        x.seed(77);
        Check.feedAll(x, "s6 8;d4;p11 61;g90 0 0;");
        Check.due("shore anew", x.shore(), 1);
        Check.due("years", x.told(6), 0);
        Check.due("found", x.told(11), 0);
        Check.due("book", x.told(12), 0);
        Check.due("can be undone", x.told(13), 0);
        Check.due("undo", x.undo(), NOT);
        Check.due("goBack(0)", x.goBack(0), NOT);
        Check.due("age", x.person(0, 0), 11);
        Check.due("where", x.person(0, 2), 0);
        Check.due("box", x.person(0, 3), 0);
        Check.due("worth", x.good(0, 0), 90);
        Check.due("stays", x.stays(NONE), 31);
        Check.due("ask", x.ask(), NONE);
        Check.due("seed stays", x.seed(0), 77);
    }

    private static int shoreOf(ThreeBelow x, String text) {
        Check.feedAll(x, text);
        return x.shore();
    }

    /** Nothing of an older shore, or of a text with a fault, is in a later one. */
    private static void shoresInARow() {
        ThreeBelow x = new ThreeBelow();
        Check.due("first", shoreOf(x, "s5 7;d3;p10 60;g4 5 6;"), 1);
        Check.due("second", shoreOf(x, "s6 8;d4;d5;p11 61;p12 62;g7 8 9;g1 2 3;"), 2);
        Check.due("third", shoreOf(x, "s7 9;d6;p13 63;p14 64;p15 65;g3 2 1;"), 3);
        Check.due("third's depths", x.told(2), 1);
        Check.due("third's goods", x.told(4), 1);
        Check.due("third's depth", x.depth(0), 6);
        Check.due("third's person", x.person(2, 0), 15);
        Check.due("third's good", x.good(0, 1), 3);
        Check.due("a fault late", shoreOf(x, "s8 9;d1;d2;p1 2;p3 4;g1 1 1;x"), -11);
        Check.due("third still", x.told(0), 7);
        Check.due("behind a fault", shoreOf(x, "s9 9;d8;p20 70;"), 1);
        Check.due("its depths", x.told(2), 1);
        Check.due("its depth", x.depth(0), 8);
        Check.due("its goods", x.told(4), 0);
        Check.due("no 's' behind a fault", shoreOf(x, "d8;p20 70;"), -11);
        Check.due("a fault again", shoreOf(x, "s8 9;d1;p1 2;g1 1 1;x"), -11);
        Check.due("an empty text behind faults", x.shore(), 0);
        for (int what = 0; what <= 13; what++) {
            Check.due("no shore: told(" + what + ")", x.told(what), 0);
        }
    }

    private static void faultLeavesAllElse() {
        ThreeBelow x = Check.shoreOf("s5 7;d3;p10 60;g100 10 9999;");
        x.down(0, 0);
        x.keep(1);
        x.year(4);
        x.find(0, 0, 7);
        x.write(0, 3);
        Check.feedAll(x, "s6 8;d4;d5;p11 61;p1 1;g90 0 0;s");
        Check.due("shore with a fault", x.shore(), -13);
        Check.due("fault", x.fault(), 31);
        Check.due("text", x.told(5), 0);
        Check.due("D", x.told(0), 5);
        Check.due("K", x.told(1), 7);
        Check.due("depths", x.told(2), 1);
        Check.due("persons", x.told(3), 1);
        Check.due("depth(0)", x.depth(0), 3);
        Check.due("years", x.told(6), 4);
        Check.due("box", x.person(0, 3), 4);
        Check.due("L", x.person(0, 1), 60);
        Check.due("V", x.good(0, 1), 100);
        Check.due("worth", x.good(0, 0), 146);
        Check.due("found", x.told(11), 1);
        Check.due("book", x.told(12), 1);
        Check.due("undo", x.undo(), 0);
        Check.due("goBack(1)", x.goBack(1), 1);
        Check.due("fault still", x.fault(), 31);
    }

    private static void faultsOfPlace() {
        Check.faultOf("d1;", 1, 0);
        Check.faultOf("p1 1;", 1, 0);
        Check.faultOf("  g1 1 1;", 1, 2);
        Check.faultOf(";", 1, 0);
        Check.faultOf("5", 1, 0);
        Check.faultOf("55555", 1, 0);
        Check.faultOf(" " + (char) 9, 1, 1);
        Check.faultOf("   ;", 1, 3);
        Check.faultOf("S1 1;", 1, 0);
        Check.faultOf("s", 1, 1);
        Check.faultOf("s  ", 1, 3);
        Check.faultOf("s;", 1, 1);
        Check.faultOf("s1", 1, 2);
        Check.faultOf("s1;", 1, 2);
        Check.faultOf("s1 1", 1, 4);
        Check.faultOf("s1 1 ", 1, 5);
        Check.faultOf("s1 1 1;", 1, 5);
        Check.faultOf("s1 1 99999;", 1, 5);
        Check.faultOf("s1 1s", 1, 4);
        Check.faultOf("ss1 1;", 1, 1);
        Check.faultOf("s1,1;", 1, 2);
        Check.faultOf("s1\t1;", 1, 2);
        Check.faultOf("s-1 1;", 1, 1);
        Check.faultOf("s1 1;;", 1, 5);
        Check.faultOf("s1 1;1", 1, 5);
        Check.faultOf("s1 1; x", 1, 6);
        Check.faultOf("s1 1;D1;", 1, 5);
        Check.faultOf("s1 1;d;", 1, 6);
        Check.faultOf("s1 1;d 1 1;", 1, 9);
        Check.faultOf("s1 1;ds", 1, 6);
        Check.faultOf("s1 1;d1;d1;d1;d1;pd", 1, 18);
        Check.faultOf("s1 1;p1;", 1, 7);
        Check.faultOf("s1 1;p1 1 1;", 1, 10);
        Check.faultOf("s1 1;g1 1;", 1, 9);
        Check.faultOf("s1 1;g1 1 1 1;", 1, 12);
        Check.faultOf("s1 1;g1 1 1", 1, 11);
        Check.faultOf("s1 1;" + (char) 160, 1, 5);
        Check.faultOf("s1 1;" + (char) 0, 1, 5);
        Check.faultOf("s1 1;" + (char) 255, 1, 5);
        Check.faultOf("s1 1/", 1, 4);
        Check.faultOf("s1 1:", 1, 4);
    }

    private static void faultsOfNumbers() {
        Check.faultOf("s0 1;", 2, 1);
        Check.faultOf("s100 1;", 2, 1);
        Check.faultOf("s1 0;", 2, 3);
        Check.faultOf("s1 61;", 2, 3);
        Check.faultOf("s11;", 1, 3);
        Check.faultOf("s9960;", 2, 1);
        Check.faultOf("s00001 1;", 2, 1);
        Check.faultOf("s  12345", 2, 3);
        Check.faultOf("s1 000000000000000001;", 2, 3);
        Check.faultOf("s4294967297 1;", 2, 1);
        Check.faultOf("s100x", 2, 1);
        Check.faultOf("s1 1;d0;", 2, 6);
        Check.faultOf("s1 1;d201;", 2, 6);
        Check.faultOf("s1 1;d00200;", 2, 6);
        Check.faultOf("s1 1;p100 1;", 2, 6);
        Check.faultOf("s1 1;p0 0;", 2, 8);
        Check.faultOf("s1 1;p0 151;", 2, 8);
        Check.faultOf("s1 1;g0 0 0;", 2, 6);
        Check.faultOf("s1 1;g1000 0 0;", 2, 6);
        Check.faultOf("s1 1;g1 101 0;", 2, 8);
        Check.faultOf("s1 1;g1 0 10000;", 2, 10);
        Check.faultOf("s1 1;d0;x", 2, 6);
    }

    private static void faultsOfTooMany() {
        Check.faultOf("s1 1;s1 1;", 3, 5);
        Check.faultOf("s1 1; s", 3, 6);
        Check.faultOf("s1 1;d1;d1;d1;d1;d", 3, 17);
        Check.faultOf("s1 1;p0 1;p0 1;p0 1;p0 1;p0 1;p0 1;p0 1;p0 1;", 3, 40);
        Check.faultOf("s1 1;g1 0 0;g1 0 0;g1 0 0;g1 0 0;g1 0 0;g1 0 0; g", 3, 48);
        Check.faultOf("s1 1;d1;p0 1;g1 0 0;s", 3, 20);
    }

    private static void boundsThatStand() {
        ThreeBelow x = Check.shoreOf("s99 60;d1;d200;d7;d8;p0 1;p99 150;p1 1;p1 1;p1 1;p1 1;p1 1;"
                + "g1 0 0;g999 50 9999;g1 51 0;g1 100 0;g1 0 0;g5 0 0;");
        Check.due("D", x.told(0), 99);
        Check.due("K", x.told(1), 60);
        Check.due("depths", x.told(2), 4);
        Check.due("persons", x.told(3), 7);
        Check.due("goods", x.told(4), 6);
        Check.due("least shore", Check.shoreOf("s1 1;").told(0), 1);
        Check.due("depth(1)", x.depth(1), 200);
        Check.due("person(1, 0)", x.person(1, 0), 99);
        Check.due("person(1, 1)", x.person(1, 1), 150);
        Check.due("good(1, 1)", x.good(1, 1), 999);
        Check.due("good(1, 3)", x.good(1, 3), 9999);
        Check.due("good(3, 2)", x.good(3, 2), 100);
        Check.due("good(5, 1)", x.good(5, 1), 5);
        Check.due("dead", x.told(8), 0b1111100);
        StringBuilder full = new StringBuilder("s1 1;");
        while (full.length() < 235) {
            full.append(' ');
        }
        Check.due("text of 240 letters", Check.shoreOf(full + "p1 2;").told(3), 1);
    }

    private static void told() {
        ThreeBelow x = Check.shoreOf("s5 7;d3;d4;p10 60;p11 61;p12 62;g4 5 6;");
        Check.due("told(-1)", x.told(-1), OUTSIDE);
        Check.due("told(14)", x.told(14), OUTSIDE);
        x.feed(32);
        x.feed(32);
        Check.due("told(5)", x.told(5), 2);
        Check.due("king at 0", x.told(7), 0);
        x.year(6);
        Check.due("years", x.told(6), 6);
        Check.due("king at 6", x.told(7), 0);
        x.year(1);
        Check.due("king at 7", x.told(7), 1);
        x.year(13);
        Check.due("king at 20", x.told(7), 2);
        x.find(1, 0, 3);
        x.find(1, 0, 3);
        x.write(0, 3);
        Check.due("told(11)", x.told(11), 2);
        Check.due("told(12)", x.told(12), 1);
        Check.due("told(13)", x.told(13), 3);
    }

    private static void toldSets() {
        ThreeBelow x = Check.shoreOf("s5 7;d3;d4;p10 60;p11 20;p12 62;p9 9;p13 63;");
        Check.due("dead at first", x.told(8), 8);
        Check.due("below at first", x.told(9), 0);
        x.down(0, 1);
        x.year(2);
        x.down(2, 0);
        Check.due("below", x.told(9), 5);
        Check.due("by law at 2", x.told(10), 0);
        x.year(2);
        Check.due("by law at 4", x.told(10), 0);
        x.year(1);
        Check.due("by law at 5", x.told(10), 1);
        x.year(2);
        Check.due("by law at 7", x.told(10), 5);
        Check.due("dead at 7", x.told(8), 8);
        x.up(0);
        Check.due("by law, one up", x.told(10), 4);
        x.down(0, 0);
        Check.due("by law, down again", x.told(10), 4);
        Check.due("below, down again", x.told(9), 5);
        x.year(2);
        Check.due("dead at 9", x.told(8), 10);
    }

    private static void depth() {
        ThreeBelow x = Check.shoreOf("s5 7;d3;d4;");
        Check.due("depth(1)", x.depth(1), 4);
        Check.due("depth(2)", x.depth(2), UNKNOWN);
        Check.due("depth(-1)", x.depth(-1), UNKNOWN);
        Check.due("depth(4)", x.depth(4), UNKNOWN);
        Check.due("depth, most", x.depth(Integer.MAX_VALUE), UNKNOWN);
        Check.due("depth, least", x.depth(Integer.MIN_VALUE), UNKNOWN);
    }

    private static void person() {
        ThreeBelow x = Check.shoreOf("s5 7;d3;d4;p10 60;p50 50;p51 50;");
        Check.due("person(3, 0)", x.person(3, 0), UNKNOWN);
        Check.due("person(-1, 0)", x.person(-1, 0), UNKNOWN);
        Check.due("person(3, 5)", x.person(3, 5), UNKNOWN);
        Check.due("person(0, 5)", x.person(0, 5), OUTSIDE);
        Check.due("person(0, -1)", x.person(0, -1), OUTSIDE);
        Check.due("L", x.person(0, 1), 60);
        Check.due("told at L is dead", x.person(1, 2), 1);
        Check.due("told above L is dead", x.person(2, 2), 1);
        Check.due("dead one's age", x.person(2, 0), 51);
        Check.due("dead one's days", x.person(2, 4), 0);
        x.down(0, 1);
        Check.due("where, below", x.person(0, 2), 11);
        x.year(7);
        Check.due("age below", x.person(0, 0), 10);
        Check.due("box below", x.person(0, 3), 7);
        Check.due("days below", x.person(0, 4), 1);
        Check.due("dead one's box", x.person(2, 3), 0);
        Check.due("dead one is not older", x.person(1, 0), 50);
        x.year(1);
        Check.due("days at 8", x.person(0, 4), 2);
        x.up(0);
        Check.due("days above", x.person(0, 4), 0);
        Check.due("box above", x.person(0, 3), 8);
        Check.due("where, above", x.person(0, 2), 0);
        x.year(50);
        Check.due("age at death", x.person(0, 0), 60);
        Check.due("where, dead", x.person(0, 2), 1);
        Check.due("dead one keeps the box", x.person(0, 3), 8);
        x.year(50);
        Check.due("age long dead", x.person(0, 0), 60);
    }

    private static void personsApart() {
        ThreeBelow x = Check.shoreOf("s5 7;d3;d4;p10 60;p20 61;p30 62;p40 63;p50 64;p55 65;p58 66;");
        for (int p = 0; p < 7; p++) {
            x.down(p, p % 2);
            x.year(1);
        }
        int[] ages = {10, 21, 32, 43, 54, 60, 64};
        for (int p = 0; p < 7; p++) {
            Check.due("age of " + p, x.person(p, 0), ages[p]);
            Check.due("L of " + p, x.person(p, 1), 60 + p);
            Check.due("where is " + p, x.person(p, 2), 10 + p % 2);
            Check.due("box of " + p, x.person(p, 3), 7 - p);
            Check.due("days of " + p, x.person(p, 4), (7 - p) / (3 + p % 2));
        }
        x.up(3);
        Check.due("days of 3, up", x.person(3, 4), 0);
        Check.due("box of 3, up", x.person(3, 3), 4);
    }

    private static void good() {
        ThreeBelow x = Check.shoreOf("s5 7;g100 10 130;g200 60 5;");
        Check.due("good(2, 0)", x.good(2, 0), UNKNOWN);
        Check.due("good(-1, 0)", x.good(-1, 0), UNKNOWN);
        Check.due("good(2, 9)", x.good(2, 9), UNKNOWN);
        Check.due("good(0, 4)", x.good(0, 4), OUTSIDE);
        Check.due("good(0, -1)", x.good(0, -1), OUTSIDE);
        x.year(2);
        Check.due("worth grown", x.good(0, 0), 121);
        Check.due("worth rotten", x.good(1, 0), 162);
        Check.due("V", x.good(0, 1), 100);
        Check.due("Q", x.good(1, 2), 60);
        Check.due("M", x.good(1, 3), 5);
    }
}

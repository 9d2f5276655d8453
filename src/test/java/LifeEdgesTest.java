/** Section 2 of the document and promises 5 to 13: a test for each sentence that bounds lives, boxes, stays and goods. */
public final class LifeEdgesTest {
    private static final int NOT = ThreeBelow.NOT;
    private static final int FULL = ThreeBelow.FULL;

    public static void main(String[] args) {
        toldToBeDead();
        deadWhenLOrOlder();
        manyYearsAtOnceEndAtL();
        yearsOneByOneAreYearsAtOnce();
        belowIsNotOlder();
        daysOfAStay();
        daysOfThisStayAlone();
        noDaysAboveOrDead();
        growsUpToM();
        growsByWhatIsCut();
        aboveMFromTheFirst();
        rotsByWhatIsCut();
        fiftyAndFiftyOne();
        leastYears();
        mostYears();
        yearsAbove90000();
        driftAbove90000();
        downToEachDepth();
        boxStaysShut();
        boxOfSeveralStays();
        openBelowL();
        openAtLAndAbove();
        openEmpty();
        sevenPersonsApart();
        takenForGood();
        sixGoodsApart();
        deadByLaw();
        deadByLawLeastAndMost();
        kingByYears();
        setsOfSeven();
        Check.end();
    }

    private static void person(String name, ThreeBelow x, int p, int age, int where, int box) {
        Check.due(name + ": age of " + p, x.person(p, 0), age);
        Check.due(name + ": where " + p + " is", x.person(p, 2), where);
        Check.due(name + ": box of " + p, x.person(p, 3), box);
    }

    /** "who is told to be L or older is dead". */
    private static void toldToBeDead() {
        ThreeBelow x = Check.shoreOf("s1 1;p0 1;p1 1;p2 1;p59 60;p60 60;p61 60;p99 150;");
        int[] ages = {0, 1, 2, 59, 60, 61, 99};
        for (int p = 0; p < 7; p++) {
            person("told", x, p, ages[p], p % 3 == 0 ? 0 : 1, 0);
        }
        Check.due("dead", x.told(8), 0b0110110);
        x.year(1);
        Check.due("told to be above L: not older", x.person(2, 0), 2);
    }

    /** "each PERSON above is one YEAR older, dead when L or older". */
    private static void deadWhenLOrOlder() {
        ThreeBelow x = Check.shoreOf("s1 1;p58 60;p0 1;");
        x.year(1);
        person("a year ahead of L", x, 0, 59, 0, 0);
        person("L is 1", x, 1, 1, 1, 0);
        x.year(1);
        person("at L", x, 0, 60, 1, 0);
        x.year(1);
        person("behind L", x, 0, 60, 1, 0);
    }

    private static void manyYearsAtOnceEndAtL() {
        ThreeBelow x = Check.shoreOf("s1 1;p58 60;p58 61;p58 62;p0 150;");
        x.year(3);
        person("one year too many", x, 0, 60, 1, 0);
        person("just enough", x, 1, 61, 1, 0);
        person("one left", x, 2, 61, 0, 0);
        x.year(300);
        person("300 at once", x, 3, 150, 1, 0);
    }

    private static void yearsOneByOneAreYearsAtOnce() {
        String text = "s9 7;d3;p10 60;p20 60;p58 60;g100 10 999;g500 60 0;g7 50 20;";
        ThreeBelow x = Check.shoreOf(text);
        ThreeBelow y = Check.shoreOf(text);
        x.down(1, 0);
        y.down(1, 0);
        x.year(51);
        for (int i = 0; i < 51; i++) {
            y.year(1);
        }
        Check.alike("51 years", Seen.lives(x), Seen.lives(y));
    }

    /** "each below is not older, has one YEAR more in his BOX". */
    private static void belowIsNotOlder() {
        ThreeBelow x = Check.shoreOf("s1 1;d200;p59 60;");
        x.down(0, 0);
        x.year(1);
        person("a year", x, 0, 59, 10, 1);
        x.year(300);
        person("301 years", x, 0, 59, 10, 301);
        x.up(0);
        person("up", x, 0, 59, 0, 301);
        x.year(1);
        person("a year above", x, 0, 60, 1, 301);
        x.year(1);
        person("dead: the box has no more", x, 0, 60, 1, 301);
    }

    /** "DAYS below: how many YEARS of this stay / R of its DEPTH". */
    private static void daysOfAStay() {
        ThreeBelow x = Check.shoreOf("s1 1;d200;d1;p0 150;p0 150;");
        x.down(0, 0);
        x.down(1, 1);
        int[] years = {0, 1, 199, 200, 201, 399, 400, 600};
        int now = 0;
        for (int y : years) {
            if (y > now) {
                x.year(y - now);
            }
            now = y;
            Check.due("days of 200 behind " + y, x.person(0, 4), y / 200);
            Check.due("days of 1 behind " + y, x.person(1, 4), y);
        }
        Check.due("up from 200", x.up(0), 3);
        Check.due("up from 1", x.up(1), 600);
        x.down(0, 0);
        Check.due("up at once", x.up(0), 0);
    }

    /** "GOES DOWN: his stay begins." */
    private static void daysOfThisStayAlone() {
        ThreeBelow x = Check.shoreOf("s1 1;d3;p10 60;");
        x.down(0, 0);
        x.year(5);
        Check.due("5 years", x.up(0), 1);
        x.down(0, 0);
        Check.due("a new stay", x.person(0, 4), 0);
        x.year(2);
        Check.due("2 years more", x.person(0, 4), 0);
        x.year(1);
        Check.due("3 years more", x.up(0), 1);
        Check.due("all in the box", x.person(0, 3), 8);
    }

    /** "4 DAYS of this stay (0 above, dead)". */
    private static void noDaysAboveOrDead() {
        ThreeBelow x = Check.shoreOf("s1 1;d1;p10 60;p60 60;");
        x.down(0, 0);
        x.year(9);
        Check.due("below", x.person(0, 4), 9);
        x.up(0);
        Check.due("above", x.person(0, 4), 0);
        x.year(50);
        Check.due("dead", x.person(0, 2), 1);
        Check.due("dead, once below", x.person(0, 4), 0);
        Check.due("told to be dead", x.person(1, 4), 0);
    }

    private static void worth(String good, int... due) {
        ThreeBelow x = Check.shoreOf("s1 1;g" + good + ";");
        for (int i = 0; i < due.length; i++) {
            Check.due("g" + good + " behind " + i, x.good(0, 0), due[i]);
            x.year(1);
        }
    }

    /** "worth more by its worth times Q / 100, if that is no more than M, else as it was". */
    private static void growsUpToM() {
        worth("100 50 149", 100, 100, 100);
        worth("100 50 150", 100, 150, 150);
        worth("100 50 151", 100, 150, 150);
        worth("100 10 121", 100, 110, 121, 121);
        worth("100 10 120", 100, 110, 110);
        worth("963 34 9999", 963, 1290, 1728, 2315, 3102, 4156, 5569, 7462, 9999, 9999);
        worth("963 34 9998", 963, 1290, 1728, 2315, 3102, 4156, 5569, 7462, 7462);
    }

    /** "times Q / 100 (cut)": what is less than one is nothing. */
    private static void growsByWhatIsCut() {
        worth("1 50 9999", 1, 1, 1);
        worth("2 50 9999", 2, 3, 4, 6, 9, 13);
        worth("99 1 9999", 99, 99);
        worth("100 1 9999", 100, 101, 102);
        worth("199 1 9999", 199, 200, 202);
        worth("999 0 9999", 999, 999);
        worth("999 50 9999", 999, 1498, 2247, 3370, 5055, 7582, 7582);
    }

    /** "M most", but "else as it was": what is told to be worth more than M is not cut to it. */
    private static void aboveMFromTheFirst() {
        worth("500 10 499", 500, 500);
        worth("500 10 0", 500, 500);
        worth("5 0 0", 5, 5);
        worth("5 50 5", 5, 5);
    }

    /** "Q above 50: worth less by its worth times (Q less 50) / 100 (cut)", whatever M is. */
    private static void rotsByWhatIsCut() {
        worth("100 51 0", 100, 99, 99);
        worth("99 51 0", 99, 99);
        worth("200 51 9999", 200, 198, 197, 196);
        worth("100 60 5", 100, 90, 81, 73, 66);
        worth("101 100 0", 101, 51, 26, 13, 7, 4, 2, 1, 1);
        worth("1 100 0", 1, 1, 1);
        worth("999 100 0", 999, 500, 250, 125, 63);
    }

    /** "Q 0 .. 50" grows, "51 .. 100" rots. */
    private static void fiftyAndFiftyOne() {
        worth("100 49 9999", 100, 149);
        worth("100 50 9999", 100, 150);
        worth("100 51 9999", 100, 99);
        worth("100 52 9999", 100, 98);
        worth("100 99 9999", 100, 51);
        worth("100 100 9999", 100, 50);
    }

    /** "n YEARS (1 .. 300)". */
    private static void leastYears() {
        ThreeBelow x = Check.shoreOf("s1 1;");
        Check.due("year(1)", x.year(1), 1);
        Check.due("year(2)", x.year(2), 3);
        Check.due("drift(1)", x.drift(1), 4);
    }

    private static void mostYears() {
        ThreeBelow x = Check.shoreOf("s1 1;");
        Check.due("year(299)", x.year(299), 299);
        Check.due("year(300)", x.year(300), 599);
        Check.due("drift(60)", x.drift(60), 659);
    }

    private static ThreeBelow atYear(int years) {
        ThreeBelow x = Check.shoreOf("s5 7;d3;p10 60;");
        for (int left = years; left > 0; left -= 300) {
            x.year(Math.min(left, 300));
        }
        Check.due("years", x.told(6), years);
        return x;
    }

    /** "FULL: YEARS are above 90000." */
    private static void yearsAbove90000() {
        Check.due("year(300) at 89999", atYear(89999).year(300), 90299);
        Check.due("year(1) at 90000", atYear(90000).year(1), 90001);
        Check.due("year(300) at 90000", atYear(90000).year(300), 90300);
        ThreeBelow x = atYear(90001);
        Check.due("year(1) at 90001", x.year(1), FULL);
        Check.due("year(300) at 90001", x.year(300), FULL);
        x.undo();
        Check.due("year(2), one undone", x.year(2), 90002);
    }

    private static void driftAbove90000() {
        Check.due("drift(60) at 90000", atYear(90000).drift(60), 90060);
        ThreeBelow x = atYear(90001);
        Check.due("drift(1) at 90001", x.drift(1), FULL);
        Check.due("drift(60) at 90001", x.drift(60), FULL);
        x.undo();
        Check.due("drift(1), one undone", x.drift(1), 90001);
    }

    /** "2 where (0 above, 1 dead, 10 and the DEPTH below)"; "GOES DOWN: how old he is". */
    private static void downToEachDepth() {
        ThreeBelow x = Check.shoreOf("s1 1;d1;d2;d3;d4;p0 99;p1 99;p2 99;p98 99;p99 99;");
        for (int p = 0; p < 4; p++) {
            Check.due("above", x.person(p, 2), 0);
            Check.due("down(" + p + ", " + p + ")", x.down(p, p), p < 3 ? p : 98);
            Check.due("where", x.person(p, 2), 10 + p);
        }
        Check.due("dead", x.person(4, 2), 1);
    }

    /** "COMES UP: the box stays shut with all its YEARS." */
    private static void boxStaysShut() {
        ThreeBelow x = Check.shoreOf("s1 1;d3;p10 60;");
        x.down(0, 0);
        x.year(300);
        x.up(0);
        person("up", x, 0, 10, 0, 300);
        x.year(49);
        person("a year ahead of L, the box shut", x, 0, 59, 0, 300);
    }

    private static void boxOfSeveralStays() {
        ThreeBelow x = Check.shoreOf("s1 1;d3;d5;p10 60;");
        for (int i = 1; i <= 4; i++) {
            x.down(0, i % 2);
            x.year(i);
            x.up(0);
            x.year(1);
            person("stay " + i, x, 0, 10 + i, 0, i * (i + 1) / 2);
        }
        Check.due("open", x.open(0), 24);
        person("opened", x, 0, 24, 0, 0);
        x.down(0, 0);
        x.year(2);
        person("a box begun anew", x, 0, 24, 10, 2);
    }

    private static ThreeBelow withBox(int years) {
        ThreeBelow x = Check.shoreOf("s1 1;d3;p10 60;");
        x.down(0, 0);
        x.year(years);
        x.up(0);
        return x;
    }

    /** "as many YEARS older as are in his BOX, it is empty then; dead, if that is L or more". */
    private static void openBelowL() {
        ThreeBelow x = withBox(49);
        Check.due("would be, 49 years", x.wouldOpen(0), 59);
        Check.due("open, 49 years", x.open(0), 59);
        person("49 years", x, 0, 59, 0, 0);
        Check.due("open again", x.open(0), 59);
        x.year(1);
        person("a year later", x, 0, 60, 1, 0);
    }

    private static void openAtLAndAbove() {
        for (int years : new int[] {50, 51, 300}) {
            ThreeBelow x = withBox(years);
            Check.due("would be, " + years + " years", x.wouldOpen(0), ThreeBelow.NONE);
            Check.due("open, " + years + " years", x.open(0), 10 + years);
            person(years + " years", x, 0, 10 + years, 1, 0);
            Check.due("open, dead", x.open(0), NOT);
            x.year(1);
            person("dead: not older", x, 0, 10 + years, 1, 0);
        }
    }

    private static void openEmpty() {
        ThreeBelow x = Check.shoreOf("s1 1;p59 60;");
        Check.due("open, empty", x.open(0), 59);
        person("empty", x, 0, 59, 0, 0);
        Check.due("it can be undone all the same", x.told(13), 1);
    }

    /** "7 PERSONS": what one does changes no other. */
    private static void sevenPersonsApart() {
        ThreeBelow x = Check.shoreOf("s1 1;d3;" + "p10 90;".repeat(7));
        for (int p = 0; p < 7; p++) {
            x.down(p, 0);
            x.year(1);
        }
        for (int p = 6; p >= 0; p -= 2) {
            x.up(p);
            x.open(p);
        }
        for (int p = 0; p < 7; p++) {
            person("even ones opened", x, p, p % 2 == 0 ? 17 : 10 + p, p % 2 == 0 ? 0 : 10, p % 2 == 0 ? 0 : 7 - p);
        }
    }

    /** "TAKEN: a GOOD is no more (worth 0 for good)"; "NOT: it is worth 0". */
    private static void takenForGood() {
        ThreeBelow x = Check.shoreOf("s1 1;g1 50 9999;g999 0 0;g999 50 9999;");
        Check.due("take, worth 1", x.take(0), 1);
        Check.due("take, worth 999", x.take(1), 999);
        x.year(1);
        Check.due("take, grown", x.take(2), 1498);
        x.year(300);
        for (int g = 0; g < 3; g++) {
            Check.due("worth of " + g, x.good(g, 0), 0);
            Check.due("take again " + g, x.take(g), NOT);
        }
        Check.due("goods are still told", x.told(4), 3);
    }

    /** "6 GOODS": each is worth what is told of it, and one that is taken changes no other. */
    private static void sixGoodsApart() {
        ThreeBelow x = Check.shoreOf("s1 1;g100 10 999;g100 20 999;g100 0 999;g100 60 999;g100 100 999;g100 50 149;");
        x.year(1);
        int[] due = {110, 120, 100, 90, 50, 100};
        for (int g = 5; g >= 0; g--) {
            Check.due("worth of " + g, x.good(g, 0), due[g]);
            Check.due("take(" + g + ")", x.take(g), due[g]);
        }
    }

    /** "DEAD BY LAW: PERSONS (a SET) below whose stay is D YEARS or more." */
    private static void deadByLaw() {
        ThreeBelow x = Check.shoreOf("s5 1;d3;p10 12;p10 60;p10 60;");
        x.down(1, 0);
        x.year(4);
        Check.due("a year less than D", x.told(10), 0);
        x.year(1);
        Check.due("D", x.told(10), 2);
        x.year(1);
        Check.due("a year more than D", x.told(10), 2);
        Check.due("who is dead is not dead by law", x.told(8), 1);
        x.up(1);
        Check.due("up", x.told(10), 0);
        x.down(1, 0);
        x.year(4);
        Check.due("a new stay, a year less than D", x.told(10), 0);
        x.year(1);
        Check.due("a new stay, D", x.told(10), 2);
    }

    private static void deadByLawLeastAndMost() {
        ThreeBelow x = Check.shoreOf("s1 1;d3;p10 60;");
        x.down(0, 0);
        Check.due("D is 1, down now", x.told(10), 0);
        x.year(1);
        Check.due("D is 1, a year", x.told(10), 1);
        ThreeBelow y = Check.shoreOf("s99 1;d3;p10 60;");
        y.down(0, 0);
        y.year(98);
        Check.due("D is 99, 98 years", y.told(10), 0);
        y.year(1);
        Check.due("D is 99, 99 years", y.told(10), 1);
    }

    /** "KING: which king reigns (0 the first): YEARS / K." */
    private static void kingByYears() {
        ThreeBelow x = Check.shoreOf("s1 60;");
        x.year(59);
        Check.due("a year less than K", x.told(7), 0);
        x.year(1);
        Check.due("K", x.told(7), 1);
        x.year(59);
        Check.due("a year less than two K", x.told(7), 1);
        x.year(1);
        Check.due("two K", x.told(7), 2);
        ThreeBelow y = Check.shoreOf("s1 1;");
        Check.due("K is 1, at first", y.told(7), 0);
        y.year(300);
        Check.due("K is 1, 300 years", y.told(7), 300);
    }

    /** "A SET is a whole number, bit k for k." */
    private static void setsOfSeven() {
        ThreeBelow x = Check.shoreOf("s1 1;d1;" + "p10 60;".repeat(6) + "p60 60;");
        Check.due("dead", x.told(8), 64);
        for (int p = 0; p < 6; p++) {
            x.down(p, 0);
            Check.due("below up to " + p, x.told(9), (1 << p + 1) - 1);
        }
        x.year(1);
        Check.due("dead by law", x.told(10), 63);
        x.up(0);
        x.up(3);
        Check.due("below", x.told(9), 0b110110);
        x.year(50);
        Check.due("dead, two more", x.told(8), 0b1001001);
    }
}

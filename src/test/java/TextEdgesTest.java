/** Section 1 of the document and promises 1 to 4: a test for each sentence that bounds the text or tells its faults. */
public final class TextEdgesTest {
    private static final int NONE = ThreeBelow.NONE;
    private static final int UNKNOWN = ThreeBelow.UNKNOWN;
    private static final int NOT = ThreeBelow.NOT;
    private static final int FULL = ThreeBelow.FULL;
    /** A clause of each kind, each number of it in its bounds however it is cut short. */
    private static final String EACH_KIND = "s12 34;d56;p7 89;g1 2 3;";

    public static void main(String[] args) {
        newObject();
        lettersFrom0To255();
        atMost240Letters();
        lastLettersOfAFullText();
        numbersOfTheLaw();
        numbersOfADepth();
        numbersOfAPerson();
        numbersOfAGood();
        lawFirst();
        lawOnce();
        atMost4Depths();
        atMost7Persons();
        atMost6Goods();
        clausesInAnyOrder();
        oneToFourFigures();
        aWordIsOneLetter();
        blanksAnywhereButWithinNumbers();
        onlyThirtyTwoIsABlank();
        twoNumbersNeedABlank();
        firstLetterWithAFault();
        leastFaultOfALetter();
        endAtTheLength();
        eachLetterAsAWord();
        eachLetterInPlaceOfANumber();
        eachLetterInPlaceOfTheEndOfAClause();
        emptyText();
        textIsEmptyBehindShore();
        shoreBeginsAnew();
        faultLeavesAllElse();
        faultOfTheLatestShore();
        upToThe512thCall();
        objectsApart();
        Check.end();
    }

    private static int shoreOf(ThreeBelow x, String text) {
        Check.feedAll(x, text);
        return x.shore();
    }

    /** "No SHORE." */
    private static void newObject() {
        ThreeBelow x = new ThreeBelow();
        for (int what = 0; what <= 13; what++) {
            Check.due("new told(" + what + ")", x.told(what), 0);
        }
        Check.due("new fault", x.fault(), NONE);
        Check.due("new year", x.year(1), NOT);
        Check.due("new drift", x.drift(1), NOT);
        Check.due("new seed", x.seed(0), 0);
    }

    /** "One letter (a number 0 .. 255) comes behind THE TEXT: how many it has." */
    private static void lettersFrom0To255() {
        ThreeBelow x = new ThreeBelow();
        for (int letter = 0; letter < 240; letter++) {
            Check.due("feed(" + letter + ")", x.feed(letter), letter + 1);
        }
        x.shore();
        for (int letter = 240; letter <= 255; letter++) {
            Check.due("feed(" + letter + ")", x.feed(letter), letter - 239);
        }
    }

    /** "240 letters at most"; "FULL (240)". */
    private static void atMost240Letters() {
        ThreeBelow x = new ThreeBelow();
        Check.feedAll(x, " ".repeat(239));
        Check.due("239 letters", x.told(5), 239);
        Check.due("letter 240", x.feed(32), 240);
        Check.due("letter 241", x.feed(32), FULL);
        Check.due("240 letters", x.told(5), 240);
        x.shore();
        Check.due("a letter behind shore()", x.feed(32), 1);
    }

    /** "240 letters at most": the last of them is read as all others, and the end stands behind it. */
    private static void lastLettersOfAFullText() {
        String blanks = " ".repeat(230);
        Check.due("a clause up to letter 240", Check.shoreOf("s1 1;" + blanks + "p1 2;").told(3), 1);
        Check.faultOf("s1 1;" + blanks + "p1 2x", 1, 239);
        Check.faultOf("s1 1;" + blanks + "    s", 3, 239);
        Check.faultOf("s1 1;" + blanks + "   d0", 2, 239);
        Check.faultOf("s1 1;" + blanks + "p1 20", 1, 240);
        Check.faultOf("s1 1;" + blanks + "    d", 1, 240);
        Check.faultOf("s" + "0".repeat(239), 2, 1);
        ThreeBelow x = new ThreeBelow();
        Check.feedAll(x, "s1 1;" + blanks + "p1 2 ");
        Check.due("the end of a clause at letter 241", x.feed(';'), FULL);
        Check.due("a clause without its end", x.shore(), -11);
        Check.due("its fault", x.fault(), 240);
    }

    /** The number is refused at its first letter one below the least and one above the greatest. */
    private static void bounds(String before, int least, int greatest, String behind) {
        stands(before + least + behind);
        stands(before + greatest + behind);
        if (least > 0) {
            Check.faultOf(before + (least - 1) + behind, 2, before.length());
        }
        Check.faultOf(before + (greatest + 1) + behind, 2, before.length());
    }

    private static void stands(String text) {
        ThreeBelow x = new ThreeBelow();
        Check.due("shore of \"" + text + "\"", shoreOf(x, text) >= 0 ? 1 : 0, 1);
        Check.due("fault of \"" + text + "\"", x.fault(), NONE);
    }

    /** "'s' D K ';' (D YEARS, 1 .. 99; K YEARS, 1 .. 60)". */
    private static void numbersOfTheLaw() {
        bounds("s", 1, 99, " 60;");
        bounds("s99 ", 1, 60, ";");
        ThreeBelow x = Check.shoreOf("s99 60;");
        Check.due("D", x.told(0), 99);
        Check.due("K", x.told(1), 60);
    }

    /** "'d' R ';' (1 .. 200)". */
    private static void numbersOfADepth() {
        bounds("s1 1;d", 1, 200, ";");
        ThreeBelow x = Check.shoreOf("s1 1;d1;d200;");
        Check.due("R least", x.depth(0), 1);
        Check.due("R greatest", x.depth(1), 200);
    }

    /** "'p' A L ';' (A YEARS old, 0 .. 99; die at L, 1 .. 150)". */
    private static void numbersOfAPerson() {
        bounds("s1 1;p", 0, 99, " 150;");
        bounds("s1 1;p0 ", 1, 150, ";");
        ThreeBelow x = Check.shoreOf("s1 1;p0 1;p99 150;");
        Check.due("A least", x.person(0, 0), 0);
        Check.due("L least", x.person(0, 1), 1);
        Check.due("A greatest", x.person(1, 0), 99);
        Check.due("L greatest", x.person(1, 1), 150);
    }

    /** "'g' V Q M ';' (V, 1 .. 999; Q 0 .. 50, or 51 .. 100; M most, 0 .. 9999)". */
    private static void numbersOfAGood() {
        bounds("s1 1;g", 1, 999, " 100 9999;");
        bounds("s1 1;g1 ", 0, 100, " 0;");
        bounds("s1 1;g999 100 ", 0, 9999, ";");
        ThreeBelow x = Check.shoreOf("s1 1;g1 0 0;g999 100 9999;g1 50 1;g1 51 1;");
        int[][] told = {{1, 0, 0}, {999, 100, 9999}, {1, 50, 1}, {1, 51, 1}};
        for (int g = 0; g < told.length; g++) {
            for (int what = 1; what <= 3; what++) {
                Check.due("good(" + g + ", " + what + ")", x.good(g, what), told[g][what - 1]);
            }
        }
    }

    /** "first"; "another word first than 's'". */
    private static void lawFirst() {
        Check.faultOf("d1;s1 1;", 1, 0);
        Check.faultOf("p0 1;s1 1;", 1, 0);
        Check.faultOf("g1 0 0;s1 1;", 1, 0);
        Check.faultOf("   d1;", 1, 3);
    }

    /** "once"; "3 's' again (at it)". */
    private static void lawOnce() {
        Check.faultOf("s1 1;s1 1;", 3, 5);
        Check.faultOf("s1 1; s", 3, 6);
        Check.faultOf("s1 1;d1;p0 1;g1 0 0;sx", 3, 20);
    }

    /** "4 DEPTHS at most"; "3 a fifth 'd' (at it)". */
    private static void atMost4Depths() {
        Check.due("4 depths", Check.shoreOf("s1 1;" + "d1;".repeat(4)).told(2), 4);
        Check.faultOf("s1 1;" + "d1;".repeat(5), 3, 17);
        Check.faultOf("s1 1;" + "d1;".repeat(4) + " d", 3, 18);
        Check.faultOf("s1 1;" + "d1;".repeat(4) + "p0 1;d0;", 3, 22);
    }

    /** "7 PERSONS at most"; "3 an eighth 'p' (at it)". */
    private static void atMost7Persons() {
        Check.due("7 persons", Check.shoreOf("s1 1;" + "p0 1;".repeat(7)).told(3), 7);
        Check.faultOf("s1 1;" + "p0 1;".repeat(8), 3, 40);
        Check.faultOf("s1 1;" + "p0 1;".repeat(7) + " p", 3, 41);
        Check.faultOf("s1 1;" + "p0 1;".repeat(7) + "d1;p100 1;", 3, 43);
    }

    /** "6 GOODS at most"; "3 a seventh 'g' (at it)". */
    private static void atMost6Goods() {
        Check.due("6 goods", Check.shoreOf("s1 1;" + "g1 0 0;".repeat(6)).told(4), 6);
        Check.faultOf("s1 1;" + "g1 0 0;".repeat(7), 3, 47);
        Check.faultOf("s1 1;" + "g1 0 0;".repeat(6) + " g", 3, 48);
        Check.faultOf("s1 1;" + "g1 0 0;".repeat(6) + "d1;g0 0 0;", 3, 50);
    }

    /** "What has a number has it from 0 on, as it comes": each kind is counted for itself, all kinds full at once. */
    private static void clausesInAnyOrder() {
        StringBuilder s = new StringBuilder("s1 1;");
        for (int i = 0; i < 7; i++) {
            s.append("p").append(i).append(" 9;");
            s.append(i < 6 ? "g" + (i + 1) + " 0 0;" : "");
            s.append(i < 4 ? "d" + (i + 1) + ";" : "");
        }
        ThreeBelow x = Check.shoreOf(s.toString());
        for (int i = 0; i < 7; i++) {
            Check.due("person " + i, x.person(i, 0), i);
            Check.due("good " + i, x.good(i, 1), i < 6 ? i + 1 : UNKNOWN);
            Check.due("depth " + i, x.depth(i), i < 4 ? i + 1 : UNKNOWN);
        }
    }

    /** "NUMBERS have one to four figures"; "2 a NUMBER of five figures or more (at its first)". */
    private static void oneToFourFigures() {
        for (String figures : new String[] {"7", "07", "007", "0007"}) {
            Check.due("D " + figures, Check.shoreOf("s" + figures + " 1;").told(0), 7);
        }
        Check.due("M of four figures", Check.shoreOf("s1 1;g1 0 9999;").good(0, 3), 9999);
        Check.faultOf("s00007 1;", 2, 1);
        Check.faultOf("s1 00007;", 2, 3);
        Check.faultOf("s1 1;g1 0 00000;", 2, 10);
        Check.faultOf("s4294967297 1;", 2, 1);
        Check.faultOf("s18446744073709551617 1;", 2, 1);
        Check.faultOf("s;", 1, 1);
        Check.faultOf("s1 ;", 1, 3);
    }

    /** "a word is one letter". */
    private static void aWordIsOneLetter() {
        Check.faultOf("ss1 1;", 1, 1);
        Check.faultOf("s1 1;dd1;", 1, 6);
        Check.faultOf("s1 1;pp0 1;", 1, 6);
        Check.faultOf("s1 1;gg1 0 0;", 1, 6);
        Check.faultOf("S1 1;", 1, 0);
        Check.faultOf("s1 1;D1;", 1, 5);
    }

    /** "blanks (32) may stand anywhere but within NUMBERS". */
    private static void blanksAnywhereButWithinNumbers() {
        String due = Seen.now(Check.shoreOf(EACH_KIND));
        for (int at = 0; at <= EACH_KIND.length(); at++) {
            boolean within = at > 0 && at < EACH_KIND.length()
                    && Character.isDigit(EACH_KIND.charAt(at - 1)) && Character.isDigit(EACH_KIND.charAt(at));
            for (int blanks = 1; blanks <= 3 && !within; blanks++) {
                String text = EACH_KIND.substring(0, at) + " ".repeat(blanks) + EACH_KIND.substring(at);
                Check.alike("\"" + text + "\"", Seen.now(Check.shoreOf(text)), due);
            }
        }
        // A number that is cut in two leaves one too many for its clause.
        Check.faultOf("s1 2 34;", 1, 5);
        Check.faultOf("s12 3 4;", 1, 6);
        Check.faultOf("s12 34;d5 6;", 1, 10);
        Check.faultOf("s12 34;p7 8 9;", 1, 12);
    }

    private static void onlyThirtyTwoIsABlank() {
        for (int letter : new int[] {0, 9, 10, 11, 12, 13, 31, 33, 95, 133, 160, 255}) {
            Check.faultOf((char) letter + "s1 1;", 1, 0);
            Check.faultOf("s" + (char) letter + "1 1;", 1, 1);
            Check.faultOf("s1" + (char) letter + "1;", 1, 2);
            Check.faultOf("s1 1" + (char) letter + ";", 1, 4);
            Check.faultOf("s1 1;" + (char) letter, 1, 5);
        }
    }

    /** "two NUMBERS side by side need one". */
    private static void twoNumbersNeedABlank() {
        Check.faultOf("s11;", 1, 3);
        Check.faultOf("s9960;", 2, 1);
        Check.faultOf("s1 1;p01;", 1, 8);
        Check.faultOf("s1 1;g1 00;", 1, 10);
        Check.faultOf("s1 1;g100;", 1, 9);
    }

    /** "at the first letter that has one": a lesser number further on does not count. */
    private static void firstLetterWithAFault() {
        Check.faultOf("s0 1;x", 2, 1);
        Check.faultOf("s0 0;", 2, 1);
        Check.faultOf("s1 0x", 2, 3);
        Check.faultOf("s00000x", 2, 1);
        Check.faultOf("s1 1;s0 x", 3, 5);
        Check.faultOf("s1 1;" + "d1;".repeat(4) + "dx", 3, 17);
        Check.faultOf("s1 1;d0", 2, 6);
        Check.faultOf("s1 1;p100", 2, 6);
    }

    /** "of these the least": a letter that cannot stand there is fault 1, whatever else it is. */
    private static void leastFaultOfALetter() {
        Check.faultOf("s1 s", 1, 3);
        Check.faultOf("s1 1s", 1, 4);
        Check.faultOf("s1 1 00000;", 1, 5);
        Check.faultOf("s1 1 99999;", 1, 5);
        Check.faultOf("00000", 1, 0);
        Check.faultOf("s1 1;00000", 1, 5);
        Check.faultOf("s1 1;" + "d1;".repeat(4) + "p0 d", 1, 20);
        Check.faultOf("s1 1;" + "p0 1;".repeat(7) + "dp", 1, 41);
        Check.faultOf("s1 1;" + "g1 0 0;".repeat(6) + "dg", 1, 48);
    }

    /** "the end at the text's length": behind blanks, too. */
    private static void endAtTheLength() {
        for (int length = 1; length <= EACH_KIND.length(); length++) {
            String text = EACH_KIND.substring(0, length);
            if (text.endsWith(";")) {
                stands(text);
                stands(text + "  ");
            } else {
                Check.faultOf(text, 1, length);
                Check.faultOf(text + "  ", 1, length + 2);
            }
        }
    }

    /** "1 it cannot stand there (a letter that is no word)". */
    private static void eachLetterAsAWord() {
        for (int letter = 0; letter <= 255; letter++) {
            String sign = String.valueOf((char) letter);
            switch (letter) {
                case ' ':
                    stands(sign);
                    stands("s1 1;" + sign);
                    break;
                case 's':
                    Check.faultOf(sign, 1, 1);
                    Check.faultOf("s1 1;" + sign, 3, 5);
                    break;
                case 'd': case 'p': case 'g':
                    Check.faultOf(sign, 1, 0);
                    Check.faultOf("s1 1;" + sign, 1, 6);
                    break;
                default:
                    Check.faultOf(sign, 1, 0);
                    Check.faultOf("s1 1;" + sign, 1, 5);
                    break;
            }
        }
    }

    private static void eachLetterInPlaceOfANumber() {
        for (int letter = 0; letter <= 255; letter++) {
            String text = "s1 1;p" + (char) letter;
            boolean fits = letter == ' ' || letter >= '0' && letter <= '9';
            Check.faultOf(text, 1, fits ? 7 : 6);
        }
    }

    private static void eachLetterInPlaceOfTheEndOfAClause() {
        for (int letter = 0; letter <= 255; letter++) {
            String text = "s1 1" + (char) letter;
            if (letter == ';') {
                stands(text);
            } else {
                boolean fits = letter == ' ' || letter >= '0' && letter <= '9';
                Check.faultOf(text, 1, fits ? 5 : 4);
            }
        }
    }

    /** "An empty text: no SHORE."; one of blanks alone is as one. */
    private static void emptyText() {
        for (int blanks : new int[] {0, 1, 240}) {
            ThreeBelow x = Check.shoreOf(EACH_KIND);
            shoreOf(x, EACH_KIND);
            Check.due("a text of " + blanks + " blanks", shoreOf(x, " ".repeat(blanks)), 0);
            Check.due("its fault", x.fault(), NONE);
            Check.due("no shore", x.year(1), NOT);
            for (int what = 0; what <= 13; what++) {
                Check.due("no shore: told(" + what + ")", x.told(what), 0);
            }
        }
    }

    /** "THE TEXT (it is empty then, with a FAULT, too)". */
    private static void textIsEmptyBehindShore() {
        ThreeBelow x = new ThreeBelow();
        Check.due("a shore", shoreOf(x, "s1 1;p0 1;"), 1);
        Check.due("letters behind it", x.told(5), 0);
        Check.due("a fault", shoreOf(x, "s1 1;x"), -11);
        Check.due("letters behind it", x.told(5), 0);
        Check.due("the next text", shoreOf(x, "s1 1;p0 1;p0 1;"), 2);
    }

    /** "YEAR 0, all above, boxes empty; nothing FOUND, no BOOK; IMAGES, what could be undone are gone; THE SEED stays". */
    private static void shoreBeginsAnew() {
        String text = "s5 7;d3;p10 60;p20 60;p70 60;g100 10 999;";
        ThreeBelow x = Check.shoreOf(text);
        x.down(0, 0);
        x.year(3);
        x.keep(0);
        x.keep(1);
        x.up(0);
        x.down(1, 0);
        x.year(300);
        x.take(0);
        x.find(1, 0, 3);
        x.write(1, 3);
        x.seed(2147483647);
        Check.due("the same shore again", shoreOf(x, text), 3);
        ThreeBelow y = Check.shoreOf(text);
        y.seed(2147483647);
        Check.alike("the same shore again", Seen.now(x), Seen.now(y));
        Check.due("undo", x.undo(), NOT);
        Check.due("image 0", x.goBack(0), NOT);
        Check.due("image 1", x.goBack(1), NOT);
    }

    /** "-10 less the number of its FAULT (all else is as it was)": all but THE TEXT and fault(). */
    private static void faultLeavesAllElse() {
        String[] faults = {"x", "s0", "s1 1;s", "s9 9;d9;p9 9;g9 9 9;d9;d9;d9;d9;"};
        int[] answers = {-11, -12, -13, -13};
        for (int i = 0; i < faults.length; i++) {
            String fault = faults[i];
            Seen.unchanged("shore of \"" + fault + "\"", () -> livedWithFault("s9 9;;"), x -> {
                int answer = shoreOf(x, fault);
                // The twin's text is empty too; its latest fault is told anew for both.
                shoreOf(x, "s9 9;;");
                return answer;
            }, answers[i]);
        }
    }

    private static ThreeBelow livedWithFault(String fault) {
        ThreeBelow x = Check.shoreOf("s5 7;d3;p10 60;p20 60;p70 60;g100 10 999;");
        x.seed(99);
        x.down(0, 0);
        x.year(3);
        x.keep(1);
        x.up(0);
        x.take(0);
        x.find(1, 0, 3);
        x.write(1, 23);
        shoreOf(x, fault);
        return x;
    }

    /** "The letter of the FAULT of the latest shore(); NONE." */
    private static void faultOfTheLatestShore() {
        ThreeBelow x = new ThreeBelow();
        shoreOf(x, "s1 1;x");
        Check.due("a fault", x.fault(), 5);
        Check.due("asked again", x.fault(), 5);
        Check.feedAll(x, "s1");
        Check.due("letters fed do not end it", x.fault(), 5);
        Check.due("shore", x.shore(), -11);
        Check.due("a later fault", x.fault(), 2);
        shoreOf(x, "s1 1;");
        Check.due("no fault", x.fault(), NONE);
        shoreOf(x, "x");
        Check.due("a fault at letter 0", x.fault(), 0);
        x.shore();
        Check.due("no fault of an empty text", x.fault(), NONE);
    }

    /** "An object is used for at most 512 calls". */
    private static void upToThe512thCall() {
        ThreeBelow x = new ThreeBelow();
        for (int text = 1; text <= 2; text++) {
            for (int i = 1; i <= 240; i++) {
                Check.due("feed " + i + " of text " + text, x.feed('s'), i);
            }
            Check.due("shore of text " + text, x.shore(), -11);
        }
        for (int i = 1; i <= 30; i++) {
            Check.due("call " + (482 + i), x.feed('s'), i);
        }
    }

    private static void objectsApart() {
        ThreeBelow x = Check.shoreOf(EACH_KIND);
        String before = Seen.now(x);
        ThreeBelow y = Check.shoreOf("s5 5;d5;p5 5;p6 7;g5 5 5;g6 6 6;");
        y.seed(5);
        y.down(1, 0);
        y.year(5);
        y.find(1, 0, 5);
        y.write(0, 5);
        y.keep(0);
        Check.alike("another object lives on", Seen.now(x), before);
        Check.due("it has no image by the other's", x.goBack(0), NOT);
    }
}

import java.util.function.ToIntFunction;

/** Section 3 of the document and promises 14, 15, 31 to 33: a test for each sentence on draws, what is undone, images. */
public final class KeptEdgesTest {
    private static final int NOT = ThreeBelow.NOT;
    private static final int UNKNOWN = ThreeBelow.UNKNOWN;
    private static final String FULL_SHORE = "s5 7;d3;d4;d5;d6;" + "p10 90;".repeat(7) + "g100 10 9999;";

    public static void main(String[] args) {
        seedAtFirst();
        seedFromLeastToMost();
        seedIsLeftOver();
        seedStaysWithoutDraws();
        drawsOfEachPersonAndDepth();
        drawnTurnAndYear();
        drawsOfOneWhoIsDead();
        drawsAreTwoAYear();
        undoneOfEachCall();
        undoneNone();
        undoneOfOtherCallsIsNone();
        undoneAtMost20();
        undoneAtMost20AgainAndAgain();
        undoneIsAllOfSection2();
        undoneSeedStays();
        imagesAreTwo();
        imagesAreKeptApart();
        imagesHoldTheSeed();
        imagesHoldNoneOfTheRest();
        imagesWithoutAShore();
        keepEndsWhatCanBeUndone();
        goBackEndsWhatCanBeUndone();
        goneWithTheShore();
        Check.end();
    }

    private static long next(long seed) {
        return (seed * 1103515245L + 12345L) % 2147483648L;
    }

    private static int draw(long seed, int n) {
        return (int) (seed / 65536 % n);
    }

    /** "THE SEED (0 at first". */
    private static void seedAtFirst() {
        Check.due("new", new ThreeBelow().seed(9), 0);
        ThreeBelow x = Check.shoreOf("s1 1;d1;p10 60;");
        x.drift(1);
        Check.due("two draws from 0", x.seed(0), 1406932606);
    }

    /** "v (0 .. 2147483647): what it was". */
    private static void seedFromLeastToMost() {
        ThreeBelow x = new ThreeBelow();
        Check.due("0 to 2147483647", x.seed(2147483647), 0);
        Check.due("2147483647 to 2147483646", x.seed(2147483646), 2147483647);
        Check.due("2147483646 to 1", x.seed(1), 2147483646);
        Check.due("1 to 0", x.seed(0), 1);
        Check.due("0 still", x.seed(0), 0);
    }

    /** "left over by 2 to the 31". */
    private static void seedIsLeftOver() {
        ThreeBelow x = Check.shoreOf("s1 1;d1;p10 60;");
        for (long seed : new long[] {0, 1, 2, 12345, 65535, 65536, 1073741823, 1073741824, 2147483646, 2147483647}) {
            x.seed((int) seed);
            x.drift(1);
            Check.due("two draws from " + seed, x.seed(0), next(next(seed)));
        }
        x.seed(2147483647);
        x.drift(1);
        Check.due("two draws from the greatest", x.seed(0), 288979989);
    }

    /** "if there are PERSONS and DEPTHS". */
    private static void seedStaysWithoutDraws() {
        for (String text : new String[] {"s1 1;", "s1 1;p10 60;", "s1 1;d1;", "s1 1;d1;g1 0 0;"}) {
            ThreeBelow x = Check.shoreOf(text);
            x.seed(99);
            Check.due("drift(60) of \"" + text + "\"", x.drift(60), 60);
            Check.due("its seed", x.seed(0), 99);
        }
        ThreeBelow dead = Check.shoreOf("s1 1;d1;p1 1;");
        dead.drift(1);
        Check.due("the dead are PERSONS", dead.seed(0), 1406932606);
    }

    private static long seedThatDraws(int p, int persons, int d, int depths) {
        for (long seed = 0; seed < 1000000; seed++) {
            if (draw(next(seed), persons) == p && draw(next(next(seed)), depths + 2) == d) {
                return seed;
            }
        }
        return NOT;
    }

    /** "a DRAW of PERSONS, a DRAW of DEPTHS and 2: that less than DEPTHS: he GOES DOWN there, if he is above". */
    private static void drawsOfEachPersonAndDepth() {
        for (int p = 0; p < 7; p++) {
            for (int d = 0; d < 6; d++) {
                ThreeBelow x = Check.shoreOf(FULL_SHORE);
                ThreeBelow y = Check.shoreOf(FULL_SHORE);
                String name = "drawn " + p + ", " + d;
                x.seed((int) seedThatDraws(p, 7, d, 4));
                Check.due(name, x.drift(1), 1);
                Check.due(name + ", there is such a depth", y.down(p, d) == UNKNOWN ? 1 : 0, d < 4 ? 0 : 1);
                y.year(1);
                Check.alike(name, Seen.lives(x), Seen.lives(y));
                Check.due(name + ", below", x.told(9), d < 4 ? 1 << p : 0);
            }
        }
    }

    /** "else he COMES UP, if he is below"; "ahead of each" YEAR. */
    private static void drawnTurnAndYear() {
        for (int d = 0; d < 6; d++) {
            ThreeBelow x = Check.shoreOf(FULL_SHORE);
            x.down(6, 2);
            x.year(5);
            x.seed((int) seedThatDraws(6, 7, d, 4));
            x.drift(1);
            boolean stays = d < 4;
            Check.due("drawn " + d + ": where", x.person(6, 2), stays ? 12 : 0);
            Check.due("drawn " + d + ": box", x.person(6, 3), stays ? 6 : 5);
            Check.due("drawn " + d + ": age", x.person(6, 0), stays ? 10 : 11);
            Check.due("drawn " + d + ": days", x.person(6, 4), stays ? 1 : 0);
        }
    }

    private static void drawsOfOneWhoIsDead() {
        for (int d = 0; d < 3; d++) {
            ThreeBelow x = Check.shoreOf("s1 1;d1;p60 60;p10 60;");
            x.seed((int) seedThatDraws(0, 2, d, 1));
            x.drift(1);
            Check.due("dead, drawn " + d, x.person(0, 2), 1);
            Check.due("dead, drawn " + d + ", box", x.person(0, 3), 0);
            Check.due("the other, a year older", x.person(1, 0), 11);
        }
    }

    /** "n YEARS: ahead of each .. a DRAW .., a DRAW ..". */
    private static void drawsAreTwoAYear() {
        for (int n : new int[] {1, 2, 59, 60}) {
            ThreeBelow x = Check.shoreOf(FULL_SHORE);
            x.seed(5);
            Check.due("drift(" + n + ")", x.drift(n), n);
            long seed = 5;
            for (int i = 0; i < 2 * n; i++) {
                seed = next(seed);
            }
            Check.due("seed behind drift(" + n + ")", x.seed(0), seed);
        }
    }

    private static ThreeBelow lived() {
        ThreeBelow x = Check.shoreOf("s5 7;d3;d4;p10 60;p20 60;p30 32;g100 10 999;g500 60 0;");
        x.down(0, 0);
        x.year(4);
        x.down(1, 1);
        x.up(0);
        x.year(1);
        return x;
    }

    private static void undone(String name, ToIntFunction<ThreeBelow> call) {
        ThreeBelow x = lived();
        String before = Seen.lives(x);
        call.applyAsInt(x);
        Check.due(name + " can be undone", x.told(13), 6);
        Check.due(name + " changes what is so", Seen.lives(x).equals(before) ? 1 : 0, 0);
        Check.due("undo of " + name, x.undo(), 5);
        Check.alike("undo of " + name, Seen.lives(x), before);
    }

    /** "the latest of year(), down(), up(), open(), take(), drift() that was not refused". */
    private static void undoneOfEachCall() {
        undone("year(1)", x -> x.year(1));
        undone("year(300)", x -> x.year(300));
        undone("down", x -> x.down(0, 1));
        undone("up", x -> x.up(1));
        undone("open", x -> x.open(0));
        undone("take", x -> x.take(1));
        undone("drift(1)", x -> x.drift(1));
        undone("drift(60)", x -> x.drift(60));
    }

    /** "how many more can be. NOT: none." */
    private static void undoneNone() {
        ThreeBelow x = lived();
        for (int left = 4; left >= 0; left--) {
            Check.due("can be undone", x.told(13), left + 1);
            Check.due("undo", x.undo(), left);
        }
        Check.due("none can be", x.told(13), 0);
        Check.due("undo, none", x.undo(), NOT);
        Check.due("undo, none again", x.undo(), NOT);
        x.year(1);
        Check.due("undo of a new one", x.undo(), 0);
    }

    private static void undoneOfOtherCallsIsNone() {
        ThreeBelow x = lived();
        x.feed('s');
        x.find(1, 0, 1);
        x.write(0, 10);
        x.seed(5);
        x.meet(0, 2, 0, 0, 0);
        x.tear();
        x.year(0);
        x.down(0, 9);
        x.down(1, 0);
        x.up(0);
        x.open(1);
        x.take(9);
        x.drift(61);
        Check.due("none of these can be undone", x.told(13), 5);
    }

    /** "20 at most are kept, the oldest are lost". */
    private static void undoneAtMost20() {
        for (int done = 19; done <= 21; done++) {
            ThreeBelow x = Check.shoreOf("s1 1;p10 99;");
            for (int i = 0; i < done; i++) {
                x.year(1);
            }
            int kept = Math.min(done, 20);
            Check.due(done + " done, kept", x.told(13), kept);
            for (int i = 1; i <= kept; i++) {
                Check.due(done + " done, undo " + i, x.undo(), kept - i);
                Check.due("years", x.told(6), done - i);
            }
            Check.due(done + " done, no more", x.undo(), NOT);
            Check.due("years at the oldest", x.told(6), done - kept);
        }
    }

    private static void undoneAtMost20AgainAndAgain() {
        ThreeBelow x = Check.shoreOf("s1 1;p10 99;");
        for (int i = 0; i < 50; i++) {
            x.year(1);
        }
        for (int i = 0; i < 15; i++) {
            x.undo();
        }
        Check.due("5 are left", x.told(13), 5);
        for (int i = 0; i < 16; i++) {
            x.year(2);
        }
        Check.due("16 more make 20", x.told(13), 20);
        for (int i = 15; i >= 0; i--) {
            x.undo();
            Check.due("years", x.told(6), 35 + 2 * i);
        }
        for (int i = 3; i >= 0; i--) {
            Check.due("undo of the older ones", x.undo(), i);
            Check.due("years", x.told(6), 31 + i);
        }
        Check.due("the oldest is lost", x.undo(), NOT);
    }

    /** "all of section 2 is as ahead of it". */
    private static void undoneIsAllOfSection2() {
        ThreeBelow x = lived();
        String before = Seen.now(x);
        x.down(0, 1);
        x.year(100);
        x.up(0);
        x.open(0);
        x.take(0);
        x.up(1);
        x.year(1);
        for (int i = 0; i < 7; i++) {
            x.undo();
        }
        Check.alike("seven undone", Seen.now(x), before);
    }

    /** "THE SEED stays." */
    private static void undoneSeedStays() {
        ThreeBelow x = lived();
        x.seed(5);
        x.drift(1);
        x.undo();
        Check.due("seed behind undo", x.seed(6), next(next(5)));
        x.year(1);
        x.undo();
        Check.due("seed behind undo of a year", x.seed(0), 6);
    }

    /** "IMAGES 0, 1". */
    private static void imagesAreTwo() {
        ThreeBelow x = lived();
        Check.due("keep(-1)", x.keep(-1), UNKNOWN);
        Check.due("keep(2)", x.keep(2), UNKNOWN);
        Check.due("goBack(0), not kept", x.goBack(0), NOT);
        Check.due("keep(0)", x.keep(0), 1);
        Check.due("goBack(1), not kept", x.goBack(1), NOT);
        Check.due("goBack(0)", x.goBack(0), 1);
        Check.due("keep(1)", x.keep(1), 1);
        Check.due("goBack(1)", x.goBack(1), 1);
        Check.due("goBack(-1)", x.goBack(-1), UNKNOWN);
        Check.due("goBack(2)", x.goBack(2), UNKNOWN);
    }

    private static void imagesAreKeptApart() {
        ThreeBelow x = lived();
        String first = Seen.lives(x);
        x.keep(0);
        x.open(0);
        x.take(0);
        x.year(3);
        String second = Seen.lives(x);
        x.keep(1);
        x.year(90);
        for (int i = 0; i < 2; i++) {
            x.goBack(0);
            Check.alike("image 0", Seen.lives(x), first);
            x.year(7);
            x.goBack(1);
            Check.alike("image 1", Seen.lives(x), second);
            x.drift(7);
        }
        x.goBack(1);
        x.keep(0);
        x.year(1);
        x.goBack(0);
        Check.alike("image 0 kept anew", Seen.lives(x), second);
    }

    /** "keep all of section 2, THE SEED." */
    private static void imagesHoldTheSeed() {
        ThreeBelow x = lived();
        x.seed(11);
        x.keep(0);
        x.seed(2147483647);
        x.keep(1);
        x.seed(13);
        x.goBack(0);
        Check.due("seed of image 0", x.seed(14), 11);
        x.goBack(1);
        Check.due("seed of image 1", x.seed(15), 2147483647);
        x.goBack(0);
        Check.due("seed of image 0 again", x.seed(0), 11);
    }

    private static void imagesHoldNoneOfTheRest() {
        ThreeBelow x = lived();
        x.keep(0);
        x.find(1, 0, 1);
        x.write(0, 99);
        Check.feedAll(x, "s1");
        x.goBack(0);
        Check.due("found", x.told(11), 1);
        Check.due("book", x.told(12), 1);
        Check.due("letters", x.told(5), 2);
        Check.due("judge", x.judge(), 0);
    }

    /** Nothing refuses keep() for want of a SHORE. */
    private static void imagesWithoutAShore() {
        ThreeBelow x = new ThreeBelow();
        x.seed(7);
        Check.due("keep", x.keep(0), 1);
        x.seed(8);
        Check.due("goBack", x.goBack(0), 1);
        Check.due("seed", x.seed(0), 7);
        Check.due("goBack(1)", x.goBack(1), NOT);
    }

    /** "IMAGE i becomes what is so (nothing can be undone then)". */
    private static void keepEndsWhatCanBeUndone() {
        for (int i = 0; i <= 1; i++) {
            ThreeBelow x = lived();
            String before = Seen.lives(x);
            x.keep(i);
            Check.due("can be undone", x.told(13), 0);
            Check.due("undo", x.undo(), NOT);
            Check.alike("keep changes nothing else", Seen.lives(x), before);
        }
    }

    /** "What is so becomes IMAGE i (nothing can be undone then)". */
    private static void goBackEndsWhatCanBeUndone() {
        for (int i = 0; i <= 1; i++) {
            ThreeBelow x = lived();
            x.keep(i);
            x.year(1);
            x.year(1);
            Check.due("can be undone", x.told(13), 2);
            x.goBack(i);
            Check.due("can be undone behind goBack", x.told(13), 0);
            Check.due("undo", x.undo(), NOT);
            x.year(1);
            Check.due("undo of a year behind it", x.undo(), 0);
        }
    }

    /** "IMAGES, what could be undone are gone": by a shore, but not by a fault. */
    private static void goneWithTheShore() {
        ThreeBelow x = lived();
        x.keep(0);
        x.keep(1);
        x.year(1);
        Check.feedAll(x, "s1 1;x");
        x.shore();
        Check.due("undo behind a fault", x.undo(), 0);
        Check.due("goBack(0) behind a fault", x.goBack(0), 1);
        Check.due("goBack(1) behind a fault", x.goBack(1), 1);
        x.year(1);
        Check.feedAll(x, "s1 1;p10 60;");
        x.shore();
        Check.due("undo behind a shore", x.undo(), NOT);
        Check.due("goBack(0) behind a shore", x.goBack(0), NOT);
        Check.due("goBack(1) behind a shore", x.goBack(1), NOT);
    }
}

import java.util.function.Supplier;
import java.util.function.ToIntFunction;

/**
 * "REFUSALS, of several the first in this order: UNKNOWN, OUTSIDE, NOT, FULL. What is refused changes nothing.":
 * each refusal that a promise names, with the numbers next to what is allowed and the farthest there are.
 */
public final class RefusalTest {
    private static final int NONE = ThreeBelow.NONE;
    private static final int UNKNOWN = ThreeBelow.UNKNOWN;
    private static final int OUTSIDE = ThreeBelow.OUTSIDE;
    private static final int NOT = ThreeBelow.NOT;
    private static final int FULL = ThreeBelow.FULL;
    private static final int LEAST = Integer.MIN_VALUE;
    private static final int MOST = Integer.MAX_VALUE;
    // Who is who, and which good is which, in the scene.
    private static final int ABOVE = 0;
    private static final int BELOW = 1;
    private static final int DEAD = 2;
    private static final int OTHER = 3;
    private static final int TAKEN = 1;

    public static void main(String[] args) {
        feed();
        toldDepthPersonGood();
        year();
        drift();
        down();
        up();
        open();
        take();
        undo();
        meetUnknown();
        meetOutsideAndNot();
        both();
        leave();
        when();
        letters();
        wouldOpenAndYearsLeft();
        storm();
        find();
        write();
        seed();
        keep();
        goBack();
        withoutAShore();
        whatIsTriedChangesNothing();
        Check.end();
    }

    /** Something of everything: a box, a stay, a death, a good taken; found, written, kept, undoable; a text begun. */
    private static ThreeBelow scene() {
        ThreeBelow x = Check.shoreOf("s5 7;d3;d4;p10 60;p20 70;p60 60;p30 90;g100 10 9999;g50 60 0;");
        Check.feedAll(x, "x");
        x.shore();
        x.seed(77);
        x.down(ABOVE, 0);
        x.year(4);
        x.up(ABOVE);
        x.keep(0);
        x.seed(78);
        x.down(BELOW, 1);
        x.year(6);
        x.take(TAKEN);
        x.find(1, 0, 1);
        x.find(0, 0, 233);
        x.write(ABOVE, 16);
        x.write(BELOW, 99);
        Check.feedAll(x, "s6 8;p1 2;");
        return x;
    }

    private static ThreeBelow atYear90001() {
        ThreeBelow x = Check.shoreOf("s5 7;d3;p10 60;g9 0 9;");
        for (int i = 0; i < 300; i++) {
            x.year(300);
        }
        x.year(1);
        return x;
    }

    private static ThreeBelow withFullText() {
        ThreeBelow x = new ThreeBelow();
        Check.feedAll(x, "s5 7;p10 60;" + " ".repeat(228));
        return x;
    }

    private static ThreeBelow withAllFound() {
        ThreeBelow x = scene();
        for (int i = 0; i < 4; i++) {
            x.find(1, 0, 1);
        }
        return x;
    }

    private static ThreeBelow withFullBook() {
        ThreeBelow x = scene();
        for (int i = 0; i < 13; i++) {
            x.write(OTHER, 5);
        }
        return x;
    }

    private static ThreeBelow withNothingToUndo() {
        ThreeBelow x = scene();
        x.keep(1);
        return x;
    }

    private static void refused(String name, ToIntFunction<ThreeBelow> call, int due) {
        Seen.unchanged(name, RefusalTest::scene, call, due);
    }

    private static void refused(Supplier<ThreeBelow> scene, String name, ToIntFunction<ThreeBelow> call, int due) {
        Seen.unchanged(name, scene, call, due);
    }

    /** "a number 0 .. 255; OUTSIDE, FULL (240)". */
    private static void feed() {
        refused("feed(-1)", x -> x.feed(-1), OUTSIDE);
        refused("feed(256)", x -> x.feed(256), OUTSIDE);
        refused("feed, least", x -> x.feed(LEAST), OUTSIDE);
        refused("feed, most", x -> x.feed(MOST), OUTSIDE);
        refused(RefusalTest::withFullText, "feed(0), full", x -> x.feed(0), FULL);
        refused(RefusalTest::withFullText, "feed(255), full", x -> x.feed(255), FULL);
        refused(RefusalTest::withFullText, "feed(-1), full", x -> x.feed(-1), OUTSIDE);
        refused(RefusalTest::withFullText, "feed(256), full", x -> x.feed(256), OUTSIDE);
    }

    /** told "OUTSIDE"; depth "UNKNOWN"; person, good "UNKNOWN, OUTSIDE". */
    private static void toldDepthPersonGood() {
        for (int what : new int[] {LEAST, -1, 14, MOST}) {
            refused("told(" + what + ")", x -> x.told(what), OUTSIDE);
        }
        for (int d : new int[] {LEAST, -1, 2, 3, 4, MOST}) {
            refused("depth(" + d + ")", x -> x.depth(d), UNKNOWN);
        }
        for (int p : new int[] {LEAST, -1, 4, 6, 7, MOST}) {
            refused("person(" + p + ", 0)", x -> x.person(p, 0), UNKNOWN);
            refused("person(" + p + ", 5)", x -> x.person(p, 5), UNKNOWN);
        }
        for (int g : new int[] {LEAST, -1, 2, 5, 6, MOST}) {
            refused("good(" + g + ", 0)", x -> x.good(g, 0), UNKNOWN);
            refused("good(" + g + ", 4)", x -> x.good(g, 4), UNKNOWN);
        }
        for (int what : new int[] {LEAST, -1, 5, MOST}) {
            refused("person(3, " + what + ")", x -> x.person(3, what), OUTSIDE);
        }
        for (int what : new int[] {LEAST, -1, 4, MOST}) {
            refused("good(1, " + what + ")", x -> x.good(1, what), OUTSIDE);
        }
    }

    /** "n YEARS (1 .. 300). OUTSIDE, NOT: no SHORE; FULL: YEARS are above 90000." */
    private static void year() {
        for (int n : new int[] {LEAST, -1, 0, 301, MOST}) {
            refused("year(" + n + ")", x -> x.year(n), OUTSIDE);
            refused(ThreeBelow::new, "year(" + n + "), no shore", x -> x.year(n), OUTSIDE);
            refused(RefusalTest::atYear90001, "year(" + n + ") at 90001", x -> x.year(n), OUTSIDE);
        }
        for (int n : new int[] {1, 300}) {
            refused(ThreeBelow::new, "year(" + n + "), no shore", x -> x.year(n), NOT);
            refused(RefusalTest::atYear90001, "year(" + n + ") at 90001", x -> x.year(n), FULL);
        }
    }

    /** "n YEARS (1 .. 60) BY DRAWS. OUTSIDE, NOT: no SHORE; FULL: YEARS are above 90000." */
    private static void drift() {
        for (int n : new int[] {LEAST, -1, 0, 61, MOST}) {
            refused("drift(" + n + ")", x -> x.drift(n), OUTSIDE);
            refused(ThreeBelow::new, "drift(" + n + "), no shore", x -> x.drift(n), OUTSIDE);
            refused(RefusalTest::atYear90001, "drift(" + n + ") at 90001", x -> x.drift(n), OUTSIDE);
        }
        for (int n : new int[] {1, 60}) {
            refused(ThreeBelow::new, "drift(" + n + "), no shore", x -> x.drift(n), NOT);
            refused(RefusalTest::atYear90001, "drift(" + n + ") at 90001", x -> x.drift(n), FULL);
        }
    }

    /** "UNKNOWN, NOT: he is not above." */
    private static void down() {
        for (int p : new int[] {LEAST, -1, 4, 7, MOST}) {
            refused("down(" + p + ", 0)", x -> x.down(p, 0), UNKNOWN);
        }
        for (int d : new int[] {LEAST, -1, 2, 4, MOST}) {
            refused("down(above, " + d + ")", x -> x.down(ABOVE, d), UNKNOWN);
            refused("down(below, " + d + ")", x -> x.down(BELOW, d), UNKNOWN);
            refused("down(dead, " + d + ")", x -> x.down(DEAD, d), UNKNOWN);
        }
        refused("down, below already, there", x -> x.down(BELOW, 1), NOT);
        refused("down, below already, elsewhere", x -> x.down(BELOW, 0), NOT);
        refused("down, dead", x -> x.down(DEAD, 0), NOT);
    }

    /** "UNKNOWN, NOT: he is not below." */
    private static void up() {
        for (int p : new int[] {LEAST, -1, 4, 7, MOST}) {
            refused("up(" + p + ")", x -> x.up(p), UNKNOWN);
        }
        refused("up, above with a box", x -> x.up(ABOVE), NOT);
        refused("up, never below", x -> x.up(OTHER), NOT);
        refused("up, dead", x -> x.up(DEAD), NOT);
    }

    /** "UNKNOWN, NOT: he is not above." */
    private static void open() {
        for (int p : new int[] {LEAST, -1, 4, 7, MOST}) {
            refused("open(" + p + ")", x -> x.open(p), UNKNOWN);
        }
        refused("open, below", x -> x.open(BELOW), NOT);
        refused("open, dead", x -> x.open(DEAD), NOT);
    }

    /** "UNKNOWN, NOT: it is worth 0." */
    private static void take() {
        for (int g : new int[] {LEAST, -1, 2, 6, MOST}) {
            refused("take(" + g + ")", x -> x.take(g), UNKNOWN);
        }
        refused("take, taken", x -> x.take(TAKEN), NOT);
    }

    /** "NOT: none." */
    private static void undo() {
        refused(RefusalTest::withNothingToUndo, "undo, none", x -> x.undo(), NOT);
        refused(ThreeBelow::new, "undo, new", x -> x.undo(), NOT);
    }

    /** "UNKNOWN (a DEPTH, PERSON that there is not; one twice, where two are asked)", ahead of OUTSIDE and NOT. */
    private static void meetUnknown() {
        for (int p : new int[] {LEAST, -1, 4, 7, MOST}) {
            refused("meet, the first " + p, x -> x.meet(p, ABOVE, 0, 0, 0), UNKNOWN);
            refused("meet, the second " + p, x -> x.meet(ABOVE, p, 0, 0, 0), UNKNOWN);
            refused("meet, both " + p, x -> x.meet(p, p, 0, 0, 0), UNKNOWN);
            refused("meet, the first " + p + ", outside, not", x -> x.meet(p, DEAD, 0, 200, 2), UNKNOWN);
        }
        for (int d : new int[] {LEAST, -1, 2, 4, MOST}) {
            refused("meet, depth " + d, x -> x.meet(ABOVE, OTHER, d, 0, 0), UNKNOWN);
            refused("meet, depth " + d + ", outside", x -> x.meet(ABOVE, OTHER, d, 200, 0), UNKNOWN);
            refused("meet, depth " + d + ", not", x -> x.meet(ABOVE, BELOW, d, 0, 0), UNKNOWN);
        }
        refused("meet, one twice", x -> x.meet(ABOVE, ABOVE, 0, 0, 0), UNKNOWN);
        refused("meet, one twice, outside", x -> x.meet(ABOVE, ABOVE, 0, 0, 2), UNKNOWN);
        refused("meet, one twice, not", x -> x.meet(DEAD, DEAD, 0, 0, 0), UNKNOWN);
    }

    /** "OUTSIDE (older -199 .. 199), NOT: one is not above." */
    private static void meetOutsideAndNot() {
        for (int older : new int[] {LEAST, -200, 200, MOST}) {
            refused("meet, " + older + " older", x -> x.meet(ABOVE, OTHER, 0, older, 0), OUTSIDE);
            refused("meet, " + older + " older, not", x -> x.meet(DEAD, OTHER, 0, older, 0), OUTSIDE);
        }
        for (int what : new int[] {LEAST, -1, 2, MOST}) {
            refused("meet, what " + what, x -> x.meet(ABOVE, OTHER, 0, 0, what), OUTSIDE);
            refused("meet, what " + what + ", not", x -> x.meet(ABOVE, BELOW, 0, 0, what), OUTSIDE);
        }
        for (int p : new int[] {BELOW, DEAD}) {
            refused("meet, the first not above: " + p, x -> x.meet(p, OTHER, 0, 0, 0), NOT);
            refused("meet, the second not above: " + p, x -> x.meet(OTHER, p, 0, 0, 1), NOT);
        }
        refused("meet, neither above", x -> x.meet(BELOW, DEAD, 1, 199, 1), NOT);
    }

    /** "UNKNOWN, OUTSIDE, NOT: one is not above." */
    private static void both() {
        for (int p : new int[] {LEAST, -1, 4, 7, MOST}) {
            refused("both, the first " + p, x -> x.both(p, ABOVE, 0), UNKNOWN);
            refused("both, the second " + p, x -> x.both(ABOVE, p, 0), UNKNOWN);
            refused("both, both " + p, x -> x.both(p, p, 0), UNKNOWN);
            refused("both, the second " + p + ", outside, not", x -> x.both(DEAD, p, 2), UNKNOWN);
        }
        refused("both, one twice", x -> x.both(OTHER, OTHER, 0), UNKNOWN);
        refused("both, one twice, outside", x -> x.both(OTHER, OTHER, -1), UNKNOWN);
        refused("both, one twice, not", x -> x.both(BELOW, BELOW, 0), UNKNOWN);
        for (int what : new int[] {LEAST, -1, 2, MOST}) {
            refused("both, what " + what, x -> x.both(ABOVE, OTHER, what), OUTSIDE);
            refused("both, what " + what + ", not", x -> x.both(DEAD, OTHER, what), OUTSIDE);
        }
        for (int p : new int[] {BELOW, DEAD}) {
            refused("both, the first not above: " + p, x -> x.both(p, OTHER, 0), NOT);
            refused("both, the second not above: " + p, x -> x.both(OTHER, p, 1), NOT);
        }
        refused("both, neither above", x -> x.both(DEAD, BELOW, 1), NOT);
    }

    /** "n YEARS (0 .. 300) .. OUTSIDE", ahead of NONE. */
    private static void leave() {
        for (int n : new int[] {LEAST, -1, 301, MOST}) {
            refused("leave(" + n + ", 0)", x -> x.leave(n, 0), OUTSIDE);
            refused(ThreeBelow::new, "leave(" + n + ", 1), no goods", x -> x.leave(n, 1), OUTSIDE);
        }
        for (int what : new int[] {LEAST, -1, 2, MOST}) {
            refused("leave(0, " + what + ")", x -> x.leave(0, what), OUTSIDE);
            refused(ThreeBelow::new, "leave(300, " + what + "), no goods", x -> x.leave(300, what), OUTSIDE);
        }
    }

    /** "v (0 .. 9999) .. UNKNOWN, OUTSIDE." */
    private static void when() {
        for (int g : new int[] {LEAST, -1, 2, 6, MOST}) {
            refused("when(" + g + ", 0)", x -> x.when(g, 0), UNKNOWN);
            refused("when(" + g + ", 10000)", x -> x.when(g, 10000), UNKNOWN);
        }
        for (int v : new int[] {LEAST, -1, 10000, MOST}) {
            refused("when(0, " + v + ")", x -> x.when(0, v), OUTSIDE);
            refused("when(taken, " + v + ")", x -> x.when(TAKEN, v), OUTSIDE);
        }
    }

    /** "the n-th answer (1 .. 9) .. UNKNOWN, OUTSIDE." */
    private static void letters() {
        for (int d : new int[] {LEAST, -1, 2, 4, MOST}) {
            refused("letters(" + d + ", 1)", x -> x.letters(d, 1), UNKNOWN);
            refused("letters(" + d + ", 0)", x -> x.letters(d, 0), UNKNOWN);
        }
        for (int n : new int[] {LEAST, -1, 0, 10, MOST}) {
            refused("letters(1, " + n + ")", x -> x.letters(1, n), OUTSIDE);
        }
    }

    /** "UNKNOWN, NOT: he is not above.", of both. */
    private static void wouldOpenAndYearsLeft() {
        for (int p : new int[] {LEAST, -1, 4, 7, MOST}) {
            refused("wouldOpen(" + p + ")", x -> x.wouldOpen(p), UNKNOWN);
            refused("yearsLeft(" + p + ")", x -> x.yearsLeft(p), UNKNOWN);
        }
        for (int p : new int[] {BELOW, DEAD}) {
            refused("wouldOpen, not above: " + p, x -> x.wouldOpen(p), NOT);
            refused("yearsLeft, not above: " + p, x -> x.yearsLeft(p), NOT);
        }
    }

    /** "n YEARS (0 .. 60)", "q 0 .. 100 .. OUTSIDE." */
    private static void storm() {
        for (int n : new int[] {LEAST, -1, 61, MOST}) {
            refused("storm(" + n + ", 0)", x -> x.storm(n, 0), OUTSIDE);
        }
        for (int q : new int[] {LEAST, -1, 101, MOST}) {
            refused("storm(0, " + q + ")", x -> x.storm(0, q), OUTSIDE);
        }
    }

    /** "UNKNOWN (kind 0: the GOOD), OUTSIDE (kind 0, 1; kind 1: number not 0; v 0 .. 9999), FULL (6)." */
    private static void find() {
        for (int g : new int[] {LEAST, -1, 2, 6, MOST}) {
            refused("find(0, " + g + ", 0)", x -> x.find(0, g, 0), UNKNOWN);
            refused("find(0, " + g + ", -1)", x -> x.find(0, g, -1), UNKNOWN);
            refused(RefusalTest::withAllFound, "find(0, " + g + ", 0), full", x -> x.find(0, g, 0), UNKNOWN);
        }
        for (int kind : new int[] {LEAST, -1, 2, MOST}) {
            refused("find(" + kind + ", 0, 0)", x -> x.find(kind, 0, 0), OUTSIDE);
            refused("find(" + kind + ", 9, 0), no such good", x -> x.find(kind, 9, 0), OUTSIDE);
            refused(RefusalTest::withAllFound, "find(" + kind + ", 0, 0), full", x -> x.find(kind, 0, 0), OUTSIDE);
        }
        for (int number : new int[] {LEAST, -1, 1, MOST}) {
            refused("find(1, " + number + ", 0)", x -> x.find(1, number, 0), OUTSIDE);
            refused(RefusalTest::withAllFound, "find(1, " + number + ", 0), full", x -> x.find(1, number, 0), OUTSIDE);
        }
        for (int v : new int[] {LEAST, -1, 10000, MOST}) {
            refused("find(0, 0, " + v + ")", x -> x.find(0, 0, v), OUTSIDE);
            refused("find(1, 0, " + v + ")", x -> x.find(1, 0, v), OUTSIDE);
            refused(RefusalTest::withAllFound, "find(0, 0, " + v + "), full", x -> x.find(0, 0, v), OUTSIDE);
        }
        refused(RefusalTest::withAllFound, "find(0, 0, 0), full", x -> x.find(0, 0, 0), FULL);
        refused(RefusalTest::withAllFound, "find(1, 0, 9999), full", x -> x.find(1, 0, 9999), FULL);
    }

    /** "(0 .. 9999) .. UNKNOWN, OUTSIDE, FULL (15)." */
    private static void write() {
        for (int p : new int[] {LEAST, -1, 4, 7, MOST}) {
            refused("write(" + p + ", 0)", x -> x.write(p, 0), UNKNOWN);
            refused("write(" + p + ", 10000)", x -> x.write(p, 10000), UNKNOWN);
            refused(RefusalTest::withFullBook, "write(" + p + ", 0), full", x -> x.write(p, 0), UNKNOWN);
        }
        for (int age : new int[] {LEAST, -1, 10000, MOST}) {
            refused("write(3, " + age + ")", x -> x.write(OTHER, age), OUTSIDE);
            refused(RefusalTest::withFullBook, "write(3, " + age + "), full", x -> x.write(OTHER, age), OUTSIDE);
        }
        refused(RefusalTest::withFullBook, "write(0, 0), full", x -> x.write(0, 0), FULL);
        refused(RefusalTest::withFullBook, "write(3, 9999), full", x -> x.write(OTHER, 9999), FULL);
    }

    /** "v (0 .. 2147483647) .. OUTSIDE." */
    private static void seed() {
        refused("seed(-1)", x -> x.seed(-1), OUTSIDE);
        refused("seed, least", x -> x.seed(LEAST), OUTSIDE);
    }

    /** "IMAGES 0, 1 .. UNKNOWN." */
    private static void keep() {
        for (int i : new int[] {LEAST, -1, 2, MOST}) {
            refused("keep(" + i + ")", x -> x.keep(i), UNKNOWN);
        }
    }

    /** "UNKNOWN, NOT: it was not kept." */
    private static void goBack() {
        for (int i : new int[] {LEAST, -1, 2, MOST}) {
            refused("goBack(" + i + ")", x -> x.goBack(i), UNKNOWN);
        }
        refused("goBack(1), not kept", x -> x.goBack(1), NOT);
        refused(ThreeBelow::new, "goBack(0), new", x -> x.goBack(0), NOT);
    }

    /** Without a SHORE there is no DEPTH, PERSON, GOOD: UNKNOWN is ahead of all else. */
    private static void withoutAShore() {
        Supplier<ThreeBelow> bare = ThreeBelow::new;
        refused(bare, "depth, no shore", x -> x.depth(0), UNKNOWN);
        refused(bare, "person, no shore", x -> x.person(0, 5), UNKNOWN);
        refused(bare, "good, no shore", x -> x.good(0, 4), UNKNOWN);
        refused(bare, "down, no shore", x -> x.down(0, 0), UNKNOWN);
        refused(bare, "up, no shore", x -> x.up(0), UNKNOWN);
        refused(bare, "open, no shore", x -> x.open(0), UNKNOWN);
        refused(bare, "take, no shore", x -> x.take(0), UNKNOWN);
        refused(bare, "meet, no shore", x -> x.meet(0, 1, 0, 200, 2), UNKNOWN);
        refused(bare, "both, no shore", x -> x.both(0, 1, 2), UNKNOWN);
        refused(bare, "when, no shore", x -> x.when(0, -1), UNKNOWN);
        refused(bare, "letters, no shore", x -> x.letters(0, 0), UNKNOWN);
        refused(bare, "wouldOpen, no shore", x -> x.wouldOpen(0), UNKNOWN);
        refused(bare, "yearsLeft, no shore", x -> x.yearsLeft(0), UNKNOWN);
        refused(bare, "find, no shore", x -> x.find(0, 0, -1), UNKNOWN);
        refused(bare, "write, no shore", x -> x.write(0, -1), UNKNOWN);
    }

    /** "TRIED from now; nothing changes by it." */
    private static void whatIsTriedChangesNothing() {
        refused("meet", x -> x.meet(ABOVE, OTHER, 0, 0, 0), 8);
        refused("both", x -> x.both(ABOVE, OTHER, 0), 24);
        refused("leave", x -> x.leave(300, 0), 0);
        refused("when", x -> x.when(0, 9999), NONE);
        refused("letters", x -> x.letters(1, 9), 34);
        refused("wouldOpen", x -> x.wouldOpen(ABOVE), 20);
        refused("yearsLeft", x -> x.yearsLeft(ABOVE), 44);
        refused("latest", x -> x.latest(), OTHER);
        refused("storm", x -> x.storm(60, 100), 0);
        refused("stays", x -> x.stays(NONE), 1);
        refused("stays(0)", x -> x.stays(0), 3);
        refused("ask", x -> x.ask(), NONE);
        refused("judge", x -> x.judge(), 1);
        refused("told", x -> x.told(10), 1 << BELOW);
        refused("fault", x -> x.fault(), 0);
    }
}

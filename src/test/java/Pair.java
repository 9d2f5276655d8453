/** The class and the plain model, given the same calls: all answers are alike. */
final class Pair {
    private static final int MOST_CALLS = 512;

    final ThreeBelow real = new ThreeBelow();
    final PlainModel plain = new PlainModel();
    int calls;
    private final String title;

    Pair(String title) {
        this.title = title;
    }

    void tell(String text) {
        for (int i = 0; i < text.length(); i++) {
            same("feed", text.charAt(i));
        }
        same("shore");
    }

    boolean isSpent() {
        return calls >= MOST_CALLS;
    }

    /** Nothing, once the object is spent: what later calls answer is free. */
    void same(String name, int... a) {
        if (isSpent()) {
            return;
        }
        calls++;
        StringBuilder told = new StringBuilder(title).append(", call ").append(calls).append(": ").append(name);
        for (int v : a) {
            told.append(' ').append(v);
        }
        Check.due(told.toString(), ofReal(name, a), ofPlain(name, a));
    }

    private int ofReal(String name, int[] a) {
        return switch (name) {
            case "feed" -> real.feed(a[0]);
            case "shore" -> real.shore();
            case "fault" -> real.fault();
            case "told" -> real.told(a[0]);
            case "depth" -> real.depth(a[0]);
            case "person" -> real.person(a[0], a[1]);
            case "good" -> real.good(a[0], a[1]);
            case "year" -> real.year(a[0]);
            case "down" -> real.down(a[0], a[1]);
            case "up" -> real.up(a[0]);
            case "open" -> real.open(a[0]);
            case "take" -> real.take(a[0]);
            case "drift" -> real.drift(a[0]);
            case "undo" -> real.undo();
            case "meet" -> real.meet(a[0], a[1], a[2], a[3], a[4]);
            case "both" -> real.both(a[0], a[1], a[2]);
            case "leave" -> real.leave(a[0], a[1]);
            case "when" -> real.when(a[0], a[1]);
            case "letters" -> real.letters(a[0], a[1]);
            case "wouldOpen" -> real.wouldOpen(a[0]);
            case "yearsLeft" -> real.yearsLeft(a[0]);
            case "latest" -> real.latest();
            case "storm" -> real.storm(a[0], a[1]);
            case "find" -> real.find(a[0], a[1], a[2]);
            case "stays" -> real.stays(a[0]);
            case "ask" -> real.ask();
            case "write" -> real.write(a[0], a[1]);
            case "tear" -> real.tear();
            case "judge" -> real.judge();
            case "seed" -> real.seed(a[0]);
            case "keep" -> real.keep(a[0]);
            default -> real.goBack(a[0]);
        };
    }

    private int ofPlain(String name, int[] a) {
        return switch (name) {
            case "feed" -> plain.feed(a[0]);
            case "shore" -> plain.shore();
            case "fault" -> plain.fault();
            case "told" -> plain.told(a[0]);
            case "depth" -> plain.depth(a[0]);
            case "person" -> plain.person(a[0], a[1]);
            case "good" -> plain.good(a[0], a[1]);
            case "year" -> plain.year(a[0]);
            case "down" -> plain.down(a[0], a[1]);
            case "up" -> plain.up(a[0]);
            case "open" -> plain.open(a[0]);
            case "take" -> plain.take(a[0]);
            case "drift" -> plain.drift(a[0]);
            case "undo" -> plain.undo();
            case "meet" -> plain.meet(a[0], a[1], a[2], a[3], a[4]);
            case "both" -> plain.both(a[0], a[1], a[2]);
            case "leave" -> plain.leave(a[0], a[1]);
            case "when" -> plain.when(a[0], a[1]);
            case "letters" -> plain.letters(a[0], a[1]);
            case "wouldOpen" -> plain.wouldOpen(a[0]);
            case "yearsLeft" -> plain.yearsLeft(a[0]);
            case "latest" -> plain.latest();
            case "storm" -> plain.storm(a[0], a[1]);
            case "find" -> plain.find(a[0], a[1], a[2]);
            case "stays" -> plain.stays(a[0]);
            case "ask" -> plain.ask();
            case "write" -> plain.write(a[0], a[1]);
            case "tear" -> plain.tear();
            case "judge" -> plain.judge();
            case "seed" -> plain.seed(a[0]);
            case "keep" -> plain.keep(a[0]);
            default -> plain.goBack(a[0]);
        };
    }
}

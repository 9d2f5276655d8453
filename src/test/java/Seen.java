import java.util.function.Supplier;
import java.util.function.ToIntFunction;

/** What can be seen of an object, as a text: two that are alike show the same. */
final class Seen {
    private Seen() {
    }

    /**
     * The call answers what is due, and the object shows behind it what a twin shows that never got the call.
     * What can be seen only by a change (the text, the past, the images) is looked at on twins of its own.
     */
    static void unchanged(String name, Supplier<ThreeBelow> scene, ToIntFunction<ThreeBelow> call, int due) {
        Check.alike(name + ": now", now(called(name, scene, call, due)), now(scene.get()));
        Check.alike(name + ": past", past(called(name, scene, call, due)), past(scene.get()));
        Check.alike(name + ": text", text(called(name, scene, call, due)), text(scene.get()));
        Check.alike(name + ": images", images(called(name, scene, call, due)), images(scene.get()));
    }

    private static ThreeBelow called(String name, Supplier<ThreeBelow> scene, ToIntFunction<ThreeBelow> call, int due) {
        ThreeBelow x = scene.get();
        Check.due(name, call.applyAsInt(x), due);
        return x;
    }

    /** All that can be asked without a change; the seed is put back. */
    static String now(ThreeBelow x) {
        StringBuilder s = new StringBuilder("told");
        for (int what = 0; what <= 13; what++) {
            s.append(' ').append(x.told(what));
        }
        s.append(", fault ").append(x.fault()).append(", depths");
        for (int d = 0; d < x.told(2); d++) {
            s.append(' ').append(x.depth(d));
        }
        for (int p = 0; p < x.told(3); p++) {
            s.append(", person ").append(p).append(':');
            for (int what = 0; what <= 4; what++) {
                s.append(' ').append(x.person(p, what));
            }
        }
        for (int g = 0; g < x.told(4); g++) {
            s.append(", good ").append(g).append(':');
            for (int what = 0; what <= 3; what++) {
                s.append(' ').append(x.good(g, what));
            }
        }
        return s.append(found(x)).toString();
    }

    private static String found(ThreeBelow x) {
        StringBuilder s = new StringBuilder(", stays");
        int stays = x.stays(ThreeBelow.NONE);
        for (int i = 0; i < stays; i++) {
            s.append(' ').append(x.stays(i));
        }
        s.append(", ask ").append(x.ask()).append(", judge ").append(x.judge());
        int seed = x.seed(0);
        x.seed(seed);
        return s.append(", seed ").append(seed).toString();
    }

    /** All that is undone, step by step, to the last. */
    private static String past(ThreeBelow x) {
        StringBuilder s = new StringBuilder();
        for (int left = x.undo(); left >= 0; left = x.undo()) {
            s.append(left).append(" left: ").append(lives(x)).append("; ");
        }
        return s.append(now(x)).toString();
    }

    /** The part of section 2 that changes. */
    static String lives(ThreeBelow x) {
        StringBuilder s = new StringBuilder("years ").append(x.told(6));
        for (int p = 0; p < x.told(3); p++) {
            s.append(", person");
            for (int what : new int[] {0, 2, 3, 4}) {
                s.append(' ').append(x.person(p, what));
            }
        }
        for (int g = 0; g < x.told(4); g++) {
            s.append(", good ").append(x.good(g, 0));
        }
        return s.toString();
    }

    private static String text(ThreeBelow x) {
        return "shore " + x.shore() + ", " + now(x);
    }

    private static String images(ThreeBelow x) {
        StringBuilder s = new StringBuilder();
        for (int i = 0; i <= 1; i++) {
            s.append("goBack ").append(x.goBack(i)).append(": ").append(lives(x)).append(", seed ").append(x.seed(i));
        }
        return s.toString();
    }
}

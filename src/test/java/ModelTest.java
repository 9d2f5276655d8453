import java.util.Random;

/** Many runs of calls, drawn by a fixed seed, on the class and on the plain model: all answers are alike. */
public final class ModelTest {
    private static final int RUNS = 700;
    private static final int CALLS = 500;
    private static final String NOISE = "sdpg;;  0123456789999x";

    private final Random random;
    private final ThreeBelow real = new ThreeBelow();
    private final PlainModel plain = new PlainModel();
    private final int run;
    private int calls;

    private ModelTest(int run) {
        this.run = run;
        this.random = new Random(run);
    }

    public static void main(String[] args) {
        for (int run = 0; run < RUNS && !Check.hasWrong(); run++) {
            new ModelTest(run).play();
        }
        Check.end();
    }

    private void play() {
        if (random.nextInt(10) > 0) {
            tellShore();
        }
        while (calls < CALLS && !Check.hasWrong()) {
            int draw = random.nextInt(1000);
            if (draw < 3) {
                tellShore();
            } else if (draw < 10) {
                same("feed", new int[] {random.nextInt(300) - 20});
            } else {
                oneCall();
            }
        }
    }

    private int upTo(int most) {
        return random.nextInt(most + 1);
    }

    private int between(int least, int most) {
        return least + upTo(most - least);
    }

    private String shoreText() {
        StringBuilder s = new StringBuilder();
        s.append('s').append(between(1, 99)).append(' ').append(between(1, 60)).append(';');
        int[] left = {upTo(4), upTo(7), upTo(6)};
        while (left[0] + left[1] + left[2] > 0) {
            int kind = upTo(2);
            if (left[kind] == 0) {
                continue;
            }
            left[kind]--;
            if (kind == 0) {
                s.append('d').append(random.nextBoolean() ? between(1, 12) : between(1, 200));
            } else if (kind == 1) {
                s.append('p').append(upTo(99)).append(' ').append(between(20, 150));
            } else {
                s.append('g').append(between(1, 999)).append(' ').append(random.nextBoolean() ? upTo(20) : upTo(100));
                s.append(' ').append(upTo(9999));
            }
            s.append(';');
        }
        return s.toString();
    }

    private void spoil(StringBuilder s) {
        int at = upTo(s.length() - 1);
        char noise = NOISE.charAt(upTo(NOISE.length() - 1));
        switch (upTo(3)) {
            case 0: s.setCharAt(at, noise); break;
            case 1: s.insert(at, noise); break;
            case 2: s.deleteCharAt(at); break;
            default: s.setLength(at + 1); break;
        }
    }

    private void tellShore() {
        boolean isBlank = random.nextInt(20) == 0;
        StringBuilder s = new StringBuilder(isBlank ? " ".repeat(upTo(3)) : shoreText());
        if (!isBlank && random.nextInt(4) == 0) {
            spoil(s);
        }
        for (int i = 0; i < s.length(); i++) {
            same("feed", new int[] {s.charAt(i)});
        }
        same("shore", new int[0]);
        same("fault", new int[0]);
    }

    private int person() {
        int n = plain.told(3);
        return random.nextInt(25) == 0 || n == 0 ? between(-1, 8) : upTo(n - 1);
    }

    private int depth() {
        int n = plain.told(2);
        return random.nextInt(25) == 0 || n == 0 ? between(-1, 5) : upTo(n - 1);
    }

    private int good() {
        int n = plain.told(4);
        return random.nextInt(25) == 0 || n == 0 ? between(-1, 7) : upTo(n - 1);
    }

    private int number(int least, int most) {
        switch (random.nextInt(40)) {
            case 0: return least - 1;
            case 1: return most + 1;
            case 2: return least;
            case 3: return most;
            default: return between(least, most);
        }
    }

    private void oneCall() {
        switch (random.nextInt(36)) {
            case 0: case 1: same("told", new int[] {between(-1, 14)}); break;
            case 2: same("depth", new int[] {depth()}); break;
            case 3: case 4: same("person", new int[] {person(), number(0, 4)}); break;
            case 5: same("good", new int[] {good(), number(0, 3)}); break;
            case 6: same("year", new int[] {random.nextInt(5) > 0 ? number(1, 6) : number(1, 300)}); break;
            case 7: case 8: same("down", new int[] {person(), depth()}); break;
            case 9: case 10: same("up", new int[] {person()}); break;
            case 11: same("open", new int[] {person()}); break;
            case 12: same("take", new int[] {random.nextInt(4) == 0 ? good() : -1}); break;
            case 13: same("drift", new int[] {random.nextInt(5) > 0 ? number(1, 6) : number(1, 60)}); break;
            case 14: case 15: case 16: same("undo", new int[0]); break;
            case 17: same("meet", new int[] {person(), person(), depth(), number(-199, 199), number(0, 1)}); break;
            case 18: case 19: same("both", new int[] {person(), person(), number(0, 1)}); break;
            case 20: same("leave", new int[] {number(0, 300), number(0, 1)}); break;
            case 21: same("when", new int[] {good(), number(0, 9999) / between(1, 20)}); break;
            case 22: same("letters", new int[] {depth(), number(1, 9)}); break;
            case 23: same("wouldOpen", new int[] {person()}); break;
            case 24: same("yearsLeft", new int[] {person()}); break;
            case 25: same("latest", new int[0]); break;
            case 26: same("storm", new int[] {number(0, 60), number(0, 100)}); break;
            case 27: case 28: findSomething(); break;
            case 29: same("stays", new int[] {number(-1, 40)}); break;
            case 30: same("ask", new int[0]); break;
            case 31: writeSomething(); break;
            case 32: same("tear", new int[0]); break;
            case 33: same("judge", new int[0]); break;
            case 34: same("seed", new int[] {random.nextInt()}); break;
            default: same(random.nextBoolean() ? "keep" : "goBack", new int[] {number(0, 1)}); break;
        }
    }

    /** Mostly what may have been found indeed, so that some stays fit. */
    private void findSomething() {
        int kind = number(0, 1);
        if (kind == 1) {
            same("find", new int[] {1, random.nextInt(20) == 0 ? 1 : 0, random.nextInt(10) == 0 ? number(0, 9999) : upTo(3)});
        } else {
            int g = good();
            int worth = random.nextInt(4) == 0 ? number(0, 9999) : plain.good(g, random.nextInt(2));
            same("find", new int[] {kind, g, worth});
        }
    }

    private void writeSomething() {
        int p = person();
        int age = random.nextInt(6) == 0 ? number(0, 9999) : plain.person(p, 0);
        same("write", new int[] {p, age});
    }

    private void same(String name, int[] a) {
        calls++;
        StringBuilder told = new StringBuilder("run ").append(run).append(", call ").append(calls).append(": ").append(name);
        for (int v : a) {
            told.append(' ').append(v);
        }
        Check.due(told.toString(), ofReal(name, a), ofPlain(name, a));
    }

    private int ofReal(String name, int[] a) {
        return switch (name) {
            case "feed" -> real.feed(a[0]);
            case "shore" -> real.shore();
            case "fault" -> real.fault();
            case "told" -> real.told(a[0]);
            case "depth" -> real.depth(a[0]);
            case "person" -> real.person(a[0], a[1]);
            case "good" -> real.good(a[0], a[1]);
            case "year" -> real.year(a[0]);
            case "down" -> real.down(a[0], a[1]);
            case "up" -> real.up(a[0]);
            case "open" -> real.open(a[0]);
            case "take" -> real.take(a[0]);
            case "drift" -> real.drift(a[0]);
            case "undo" -> real.undo();
            case "meet" -> real.meet(a[0], a[1], a[2], a[3], a[4]);
            case "both" -> real.both(a[0], a[1], a[2]);
            case "leave" -> real.leave(a[0], a[1]);
            case "when" -> real.when(a[0], a[1]);
            case "letters" -> real.letters(a[0], a[1]);
            case "wouldOpen" -> real.wouldOpen(a[0]);
            case "yearsLeft" -> real.yearsLeft(a[0]);
            case "latest" -> real.latest();
            case "storm" -> real.storm(a[0], a[1]);
            case "find" -> real.find(a[0], a[1], a[2]);
            case "stays" -> real.stays(a[0]);
            case "ask" -> real.ask();
            case "write" -> real.write(a[0], a[1]);
            case "tear" -> real.tear();
            case "judge" -> real.judge();
            case "seed" -> real.seed(a[0]);
            case "keep" -> real.keep(a[0]);
            default -> real.goBack(a[0]);
        };
    }

    private int ofPlain(String name, int[] a) {
        return switch (name) {
            case "feed" -> plain.feed(a[0]);
            case "shore" -> plain.shore();
            case "fault" -> plain.fault();
            case "told" -> plain.told(a[0]);
            case "depth" -> plain.depth(a[0]);
            case "person" -> plain.person(a[0], a[1]);
            case "good" -> plain.good(a[0], a[1]);
            case "year" -> plain.year(a[0]);
            case "down" -> plain.down(a[0], a[1]);
            case "up" -> plain.up(a[0]);
            case "open" -> plain.open(a[0]);
            case "take" -> plain.take(a[0]);
            case "drift" -> plain.drift(a[0]);
            case "undo" -> plain.undo();
            case "meet" -> plain.meet(a[0], a[1], a[2], a[3], a[4]);
            case "both" -> plain.both(a[0], a[1], a[2]);
            case "leave" -> plain.leave(a[0], a[1]);
            case "when" -> plain.when(a[0], a[1]);
            case "letters" -> plain.letters(a[0], a[1]);
            case "wouldOpen" -> plain.wouldOpen(a[0]);
            case "yearsLeft" -> plain.yearsLeft(a[0]);
            case "latest" -> plain.latest();
            case "storm" -> plain.storm(a[0], a[1]);
            case "find" -> plain.find(a[0], a[1], a[2]);
            case "stays" -> plain.stays(a[0]);
            case "ask" -> plain.ask();
            case "write" -> plain.write(a[0], a[1]);
            case "tear" -> plain.tear();
            case "judge" -> plain.judge();
            case "seed" -> plain.seed(a[0]);
            case "keep" -> plain.keep(a[0]);
            default -> plain.goBack(a[0]);
        };
    }
}

import java.util.Random;

/** Many runs of calls, drawn by a fixed seed, on the class and on the plain model: all answers are alike. */
public final class ModelTest {
    private static final int RUNS = 700;
    private static final int CALLS = 500;
    private static final String NOISE = "sdpg;;  0123456789999x";

    private final Random random;
    private final Pair pair;

    private ModelTest(int run) {
        this.random = new Random(run);
        this.pair = new Pair("run " + run);
    }

    public static void main(String[] args) {
        for (int run = 0; run < RUNS && !Check.hasWrong(); run++) {
            new ModelTest(run).play();
        }
        Check.end();
    }

    private void play() {
        if (random.nextInt(10) > 0) {
            tellShore();
        }
        while (pair.calls < CALLS && !Check.hasWrong()) {
            int draw = random.nextInt(1000);
            if (draw < 3) {
                tellShore();
            } else if (draw < 10) {
                pair.same("feed", random.nextInt(300) - 20);
            } else {
                oneCall();
            }
        }
    }

    private int upTo(int most) {
        return random.nextInt(most + 1);
    }

    private int between(int least, int most) {
        return least + upTo(most - least);
    }

    private String shoreText() {
        StringBuilder s = new StringBuilder();
        s.append('s').append(between(1, 99)).append(' ').append(between(1, 60)).append(';');
        int[] left = {upTo(4), upTo(7), upTo(6)};
        while (left[0] + left[1] + left[2] > 0) {
            int kind = upTo(2);
            if (left[kind] == 0) {
                continue;
            }
            left[kind]--;
            if (kind == 0) {
                s.append('d').append(random.nextBoolean() ? between(1, 12) : between(1, 200));
            } else if (kind == 1) {
                s.append('p').append(upTo(99)).append(' ').append(between(20, 150));
            } else {
                s.append('g').append(between(1, 999)).append(' ').append(random.nextBoolean() ? upTo(20) : upTo(100));
                s.append(' ').append(upTo(9999));
            }
            s.append(';');
        }
        return s.toString();
    }

    private void spoil(StringBuilder s) {
        int at = upTo(s.length() - 1);
        char noise = NOISE.charAt(upTo(NOISE.length() - 1));
        switch (upTo(3)) {
            case 0: s.setCharAt(at, noise); break;
            case 1: s.insert(at, noise); break;
            case 2: s.deleteCharAt(at); break;
            default: s.setLength(at + 1); break;
        }
    }

    private void tellShore() {
        boolean isBlank = random.nextInt(20) == 0;
        StringBuilder s = new StringBuilder(isBlank ? " ".repeat(upTo(3)) : shoreText());
        if (!isBlank && random.nextInt(4) == 0) {
            spoil(s);
        }
        pair.tell(s.toString());
        pair.same("fault");
    }

    private int person() {
        int n = pair.plain.told(3);
        return random.nextInt(25) == 0 || n == 0 ? between(-1, 8) : upTo(n - 1);
    }

    private int depth() {
        int n = pair.plain.told(2);
        return random.nextInt(25) == 0 || n == 0 ? between(-1, 5) : upTo(n - 1);
    }

    private int good() {
        int n = pair.plain.told(4);
        return random.nextInt(25) == 0 || n == 0 ? between(-1, 7) : upTo(n - 1);
    }

    private int number(int least, int most) {
        switch (random.nextInt(40)) {
            case 0: return least - 1;
            case 1: return most + 1;
            case 2: return least;
            case 3: return most;
            default: return between(least, most);
        }
    }

    private void oneCall() {
        switch (random.nextInt(36)) {
            case 0: case 1: pair.same("told", between(-1, 14)); break;
            case 2: pair.same("depth", depth()); break;
            case 3: case 4: pair.same("person", person(), number(0, 4)); break;
            case 5: pair.same("good", good(), number(0, 3)); break;
            case 6: pair.same("year", random.nextInt(5) > 0 ? number(1, 6) : number(1, 300)); break;
            case 7: case 8: pair.same("down", person(), depth()); break;
            case 9: case 10: pair.same("up", person()); break;
            case 11: pair.same("open", person()); break;
            case 12: pair.same("take", random.nextInt(4) == 0 ? good() : -1); break;
            case 13: pair.same("drift", random.nextInt(5) > 0 ? number(1, 6) : number(1, 60)); break;
            case 14: case 15: case 16: pair.same("undo"); break;
            case 17: pair.same("meet", person(), person(), depth(), number(-199, 199), number(0, 1)); break;
            case 18: case 19: pair.same("both", person(), person(), number(0, 1)); break;
            case 20: pair.same("leave", number(0, 300), number(0, 1)); break;
            case 21: pair.same("when", good(), number(0, 9999) / between(1, 20)); break;
            case 22: pair.same("letters", depth(), number(1, 9)); break;
            case 23: pair.same("wouldOpen", person()); break;
            case 24: pair.same("yearsLeft", person()); break;
            case 25: pair.same("latest"); break;
            case 26: pair.same("storm", number(0, 60), number(0, 100)); break;
            case 27: case 28: findSomething(); break;
            case 29: pair.same("stays", number(-1, 40)); break;
            case 30: pair.same("ask"); break;
            case 31: writeSomething(); break;
            case 32: pair.same("tear"); break;
            case 33: pair.same("judge"); break;
            case 34: pair.same("seed", random.nextInt()); break;
            default: pair.same(random.nextBoolean() ? "keep" : "goBack", number(0, 1)); break;
        }
    }

    /** Mostly what may have been found indeed, so that some stays fit. */
    private void findSomething() {
        int kind = number(0, 1);
        if (kind == 1) {
            pair.same("find", 1, random.nextInt(20) == 0 ? 1 : 0, random.nextInt(10) == 0 ? number(0, 9999) : upTo(3));
        } else {
            int g = good();
            int worth = random.nextInt(4) == 0 ? number(0, 9999) : pair.plain.good(g, random.nextInt(2));
            pair.same("find", kind, g, worth);
        }
    }

    private void writeSomething() {
        int p = person();
        int age = random.nextInt(6) == 0 ? number(0, 9999) : pair.plain.person(p, 0);
        pair.same("write", p, age);
    }
}

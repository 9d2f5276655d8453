/** Many runs of calls, drawn by a fixed seed, on the class and on the plain model: all answers are alike. */
public final class ModelTest {
    private static final int RUNS = 700;

    private final Drawn drawn;
    private final Pair pair;

    private ModelTest(int run) {
        this.drawn = new Drawn(run);
        this.pair = new Pair("run " + run);
    }

    public static void main(String[] args) {
        for (int run = 0; run < RUNS && !Check.hasWrong(); run++) {
            new ModelTest(run).play();
        }
        Check.end();
    }

    private void play() {
        if (!drawn.oneOf(10)) {
            tellShore();
        }
        while (!pair.isSpent() && !Check.hasWrong()) {
            int draw = drawn.upTo(999);
            if (draw < 3) {
                tellShore();
            } else if (draw < 10) {
                pair.same("feed", drawn.between(-20, 279));
            } else {
                oneCall();
            }
        }
    }

    private void tellShore() {
        String text = drawn.oneOf(20) ? " ".repeat(drawn.upTo(3)) : drawn.shoreText(4, 7, 6);
        pair.tell(drawn.oneOf(4) && !text.isBlank() ? drawn.spoiled(text) : text);
        pair.same("fault");
    }

    private int person() {
        int n = pair.plain.told(3);
        return drawn.oneOf(25) || n == 0 ? drawn.between(-1, 8) : drawn.upTo(n - 1);
    }

    private int depth() {
        int n = pair.plain.told(2);
        return drawn.oneOf(25) || n == 0 ? drawn.between(-1, 5) : drawn.upTo(n - 1);
    }

    private int good() {
        int n = pair.plain.told(4);
        return drawn.oneOf(25) || n == 0 ? drawn.between(-1, 7) : drawn.upTo(n - 1);
    }

    private void oneCall() {
        switch (drawn.upTo(35)) {
            case 0: case 1: pair.same("told", drawn.between(-1, 14)); break;
            case 2: pair.same("depth", depth()); break;
            case 3: case 4: pair.same("person", person(), drawn.number(0, 4)); break;
            case 5: pair.same("good", good(), drawn.number(0, 3)); break;
            case 6: pair.same("year", !drawn.oneOf(5) ? drawn.number(1, 6) : drawn.number(1, 300)); break;
            case 7: case 8: pair.same("down", person(), depth()); break;
            case 9: case 10: pair.same("up", person()); break;
            case 11: pair.same("open", person()); break;
            case 12: pair.same("take", drawn.oneOf(4) ? good() : -1); break;
            case 13: pair.same("drift", !drawn.oneOf(5) ? drawn.number(1, 6) : drawn.number(1, 60)); break;
            case 14: case 15: case 16: pair.same("undo"); break;
            case 17: pair.same("meet", person(), person(), depth(), drawn.number(-199, 199), drawn.number(0, 1)); break;
            case 18: case 19: pair.same("both", person(), person(), drawn.number(0, 1)); break;
            case 20: pair.same("leave", drawn.number(0, 300), drawn.number(0, 1)); break;
            case 21: pair.same("when", good(), drawn.number(0, 9999) / drawn.between(1, 20)); break;
            case 22: pair.same("letters", depth(), drawn.number(1, 9)); break;
            case 23: pair.same("wouldOpen", person()); break;
            case 24: pair.same("yearsLeft", person()); break;
            case 25: pair.same("latest"); break;
            case 26: pair.same("storm", drawn.number(0, 60), drawn.number(0, 100)); break;
            case 27: case 28: findSomething(); break;
            case 29: pair.same("stays", drawn.number(-1, 40)); break;
            case 30: pair.same("ask"); break;
            case 31: writeSomething(); break;
            case 32: pair.same("tear"); break;
            case 33: pair.same("judge"); break;
            case 34: pair.same("seed", drawn.any()); break;
            default: pair.same(drawn.oneOf(2) ? "keep" : "goBack", drawn.number(0, 1)); break;
        }
    }

    /** Mostly what may have been found indeed, so that some stays fit. */
    private void findSomething() {
        int kind = drawn.number(0, 1);
        if (kind == 1) {
            pair.same("find", 1, drawn.oneOf(20) ? 1 : 0, drawn.oneOf(10) ? drawn.number(0, 9999) : drawn.upTo(3));
        } else {
            int g = good();
            int worth = drawn.oneOf(4) ? drawn.number(0, 9999) : pair.plain.good(g, drawn.upTo(1));
            pair.same("find", kind, g, worth);
        }
    }

    private void writeSomething() {
        int p = person();
        int age = drawn.oneOf(6) ? drawn.number(0, 9999) : pair.plain.person(p, 0);
        pair.same("write", p, age);
    }
}

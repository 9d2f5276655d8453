import java.util.ArrayDeque;
import java.util.ArrayList;
import java.util.HashMap;
import java.util.List;
import java.util.Map;
import java.util.TreeMap;

/** The document once more, year by year and in its plainest form, to hold the class against. */
final class PlainModel {
    static final int NONE = -1, UNKNOWN = -1000000001, OUTSIDE = -1000000002, NOT = -1000000003, FULL = -1000000004;

    /** One person or good: what was told of it never changes, what is so now does. */
    static final class Person {
        int told, lives, age, box, stay, depth = -1;
        boolean dead;

        Person copy() {
            Person c = new Person();
            c.told = told;
            c.lives = lives;
            c.age = age;
            c.box = box;
            c.stay = stay;
            c.depth = depth;
            c.dead = dead;
            return c;
        }

        boolean above() {
            return !dead && depth < 0;
        }
    }

    static final class World {
        int years;
        List<Person> persons = new ArrayList<>();
        List<Integer> worth = new ArrayList<>();

        World copy() {
            World c = new World();
            c.years = years;
            for (Person p : persons) {
                c.persons.add(p.copy());
            }
            c.worth.addAll(worth);
            return c;
        }
    }

    static final class Token {
        final char word;
        final String figures;
        final int at;

        Token(char word, String figures, int at) {
            this.word = word;
            this.figures = figures;
            this.at = at;
        }
    }

    private final StringBuilder text = new StringBuilder();
    private int faultAt = NONE;
    private boolean isTold;
    private int law, reign;
    private List<Integer> rates = new ArrayList<>();
    private List<int[]> goods = new ArrayList<>();
    private World now = new World();
    private final ArrayDeque<World> past = new ArrayDeque<>();
    private final World[] images = new World[2];
    private final long[] imageSeeds = new long[2];
    private final List<int[]> found = new ArrayList<>();
    private final List<int[]> book = new ArrayList<>();
    private long seed;

    int feed(int letter) {
        if (letter < 0 || letter > 255) return OUTSIDE;
        if (text.length() == 240) return FULL;
        text.append((char) letter);
        return text.length();
    }

    private static List<Token> tokens(String s) {
        List<Token> all = new ArrayList<>();
        int i = 0;
        while (i < s.length()) {
            int start = i;
            while (i < s.length() && s.charAt(i) >= '0' && s.charAt(i) <= '9') i++;
            if (i > start) {
                all.add(new Token('#', s.substring(start, i), start));
            } else {
                if (s.charAt(i) != ' ') all.add(new Token(s.charAt(i) == '#' ? '?' : s.charAt(i), "", i));
                i++;
            }
        }
        all.add(new Token('$', "", s.length()));
        return all;
    }

    private static final Map<Character, int[][]> BOUNDS = new TreeMap<>(Map.of(
            's', new int[][] {{1, 99}, {1, 60}},
            'd', new int[][] {{1, 200}},
            'p', new int[][] {{0, 99}, {1, 150}},
            'g', new int[][] {{1, 999}, {0, 100}, {0, 9999}}));
    private static final Map<Character, Integer> MOST = Map.of('s', 1, 'd', 4, 'p', 7, 'g', 6);

    /** {number, letter} of the first fault, or null; the clauses go into the list. */
    private static int[] parse(String s, List<int[]> clauses) {
        List<Token> all = tokens(s);
        Map<Character, Integer> counts = new HashMap<>();
        int i = 0;
        while (true) {
            Token word = all.get(i++);
            if (word.word == '$' && word.at == s.length()) return null;
            if (!BOUNDS.containsKey(word.word)) return new int[] {1, word.at};
            if (clauses.isEmpty() && word.word != 's') return new int[] {1, word.at};
            if (counts.merge(word.word, 1, Integer::sum) > MOST.get(word.word)) return new int[] {3, word.at};
            int[] clause = new int[4];
            clause[0] = word.word;
            int k = 0;
            for (int[] bound : BOUNDS.get(word.word)) {
                Token number = all.get(i++);
                if (number.word != '#') return new int[] {1, number.at};
                if (number.figures.length() > 4) return new int[] {2, number.at};
                int value = Integer.parseInt(number.figures);
                if (value < bound[0] || value > bound[1]) return new int[] {2, number.at};
                clause[++k] = value;
            }
            Token end = all.get(i++);
            if (end.word != ';') return new int[] {1, end.at};
            clauses.add(clause);
        }
    }

    int shore() {
        String s = text.toString();
        text.setLength(0);
        List<int[]> clauses = new ArrayList<>();
        int[] fault = parse(s, clauses);
        faultAt = fault == null ? NONE : fault[1];
        if (fault != null) return -10 - fault[0];
        isTold = false;
        law = 0;
        reign = 0;
        rates = new ArrayList<>();
        goods = new ArrayList<>();
        now = new World();
        for (int[] c : clauses) {
            if (c[0] == 's') {
                isTold = true;
                law = c[1];
                reign = c[2];
            } else if (c[0] == 'd') {
                rates.add(c[1]);
            } else if (c[0] == 'p') {
                Person p = new Person();
                p.age = c[1];
                p.told = c[1];
                p.lives = c[2];
                p.dead = c[1] >= c[2];
                now.persons.add(p);
            } else {
                goods.add(new int[] {c[1], c[2], c[3]});
                now.worth.add(c[1]);
            }
        }
        past.clear();
        images[0] = null;
        images[1] = null;
        found.clear();
        book.clear();
        return now.persons.size();
    }

    int fault() {
        return faultAt;
    }

    private int days(Person p) {
        return p.depth < 0 ? 0 : p.stay / rates.get(p.depth);
    }

    private int king(int years) {
        return isTold ? years / reign : 0;
    }

    int told(int what) {
        int set = 0;
        for (int i = 0; i < now.persons.size(); i++) {
            Person p = now.persons.get(i);
            boolean in = what == 8 ? p.dead : what == 9 ? p.depth >= 0 : p.depth >= 0 && p.stay >= law;
            if (in) set += 1 << i;
        }
        return switch (what) {
            case 0 -> law;
            case 1 -> reign;
            case 2 -> rates.size();
            case 3 -> now.persons.size();
            case 4 -> goods.size();
            case 5 -> text.length();
            case 6 -> now.years;
            case 7 -> king(now.years);
            case 8, 9, 10 -> set;
            case 11 -> found.size();
            case 12 -> book.size();
            case 13 -> past.size();
            default -> OUTSIDE;
        };
    }

    private boolean noDepth(int d) {
        return d < 0 || d >= rates.size();
    }

    private boolean noPerson(int p) {
        return p < 0 || p >= now.persons.size();
    }

    private boolean noGood(int g) {
        return g < 0 || g >= goods.size();
    }

    int depth(int d) {
        return noDepth(d) ? UNKNOWN : rates.get(d);
    }

    int person(int i, int what) {
        if (noPerson(i)) return UNKNOWN;
        Person p = now.persons.get(i);
        return switch (what) {
            case 0 -> p.age;
            case 1 -> p.lives;
            case 2 -> p.dead ? 1 : p.depth < 0 ? 0 : 10 + p.depth;
            case 3 -> p.box;
            case 4 -> days(p);
            default -> OUTSIDE;
        };
    }

    int good(int g, int what) {
        if (noGood(g)) return UNKNOWN;
        if (what < 0 || what > 3) return OUTSIDE;
        return what == 0 ? now.worth.get(g) : goods.get(g)[what - 1];
    }

    private int worthNext(int g, int worth) {
        int q = goods.get(g)[1];
        if (q > 50) return worth - worth * (q - 50) / 100;
        int more = worth + worth * q / 100;
        return more > goods.get(g)[2] ? worth : more;
    }

    private int worthBehind(int g, int worth, int years) {
        for (int i = 0; i < years; i++) worth = worthNext(g, worth);
        return worth;
    }

    private void oneYear() {
        now.years++;
        for (Person p : now.persons) {
            if (p.above()) {
                p.age++;
                if (p.age >= p.lives) p.dead = true;
            } else if (p.depth >= 0) {
                p.box++;
                p.stay++;
            }
        }
        for (int g = 0; g < goods.size(); g++) now.worth.set(g, worthNext(g, now.worth.get(g)));
    }

    private void remember() {
        past.addLast(now.copy());
        if (past.size() > 20) past.removeFirst();
    }

    int year(int n) {
        if (n < 1 || n > 300) return OUTSIDE;
        if (!isTold) return NOT;
        if (now.years > 90000) return FULL;
        remember();
        for (int i = 0; i < n; i++) oneYear();
        return now.years;
    }

    int down(int i, int d) {
        if (noPerson(i) || noDepth(d)) return UNKNOWN;
        if (!now.persons.get(i).above()) return NOT;
        remember();
        now.persons.get(i).depth = d;
        now.persons.get(i).stay = 0;
        return now.persons.get(i).age;
    }

    int up(int i) {
        if (noPerson(i)) return UNKNOWN;
        Person p = now.persons.get(i);
        if (p.depth < 0) return NOT;
        remember();
        int days = days(p);
        p.depth = -1;
        return days;
    }

    int open(int i) {
        if (noPerson(i)) return UNKNOWN;
        Person p = now.persons.get(i);
        if (!p.above()) return NOT;
        remember();
        p.age += p.box;
        p.box = 0;
        p.dead = p.age >= p.lives;
        return p.age;
    }

    int take(int g) {
        if (noGood(g)) return UNKNOWN;
        if (now.worth.get(g) == 0) return NOT;
        remember();
        return now.worth.set(g, 0);
    }

    private int draw(int n) {
        seed = (seed * 1103515245L + 12345L) % (1L << 31);
        return (int) (seed / 65536 % n);
    }

    int drift(int n) {
        if (n < 1 || n > 60) return OUTSIDE;
        if (!isTold) return NOT;
        if (now.years > 90000) return FULL;
        remember();
        for (int i = 0; i < n; i++) {
            if (!now.persons.isEmpty() && !rates.isEmpty()) {
                Person p = now.persons.get(draw(now.persons.size()));
                int d = draw(rates.size() + 2);
                if (d < rates.size() && p.above()) {
                    p.depth = d;
                    p.stay = 0;
                } else if (d >= rates.size() && p.depth >= 0) {
                    p.depth = -1;
                }
            }
            oneYear();
        }
        return now.years;
    }

    int undo() {
        if (past.isEmpty()) return NOT;
        now = past.removeLast();
        return past.size();
    }

    int meet(int i, int j, int d, int older, int what) {
        if (noPerson(i) || noPerson(j) || i == j || noDepth(d)) return UNKNOWN;
        if (Math.abs((long) older) > 199 || what < 0 || what > 1) return OUTSIDE;
        Person p = now.persons.get(i);
        Person q = now.persons.get(j);
        if (!p.above() || !q.above()) return NOT;
        int bestDays = NONE;
        int bestMiss = NONE;
        for (int days = 0; days <= 99; days++) {
            int age = p.age + days * rates.get(d);
            if (age >= p.lives) continue;
            int miss = Math.abs(age - q.age - older);
            if (bestDays == NONE || miss < bestMiss) {
                bestDays = days;
                bestMiss = miss;
            }
        }
        return what == 0 ? bestDays : bestMiss;
    }

    int both(int i, int j, int what) {
        if (noPerson(i) || noPerson(j) || i == j) return UNKNOWN;
        if (what < 0 || what > 1) return OUTSIDE;
        Person p = now.persons.get(i);
        Person q = now.persons.get(j);
        if (!p.above() || !q.above()) return NOT;
        int best = NONE;
        int four = NONE;
        for (int pd = -1; pd < rates.size(); pd++) {
            for (int pk = pd < 0 ? 0 : 1; pk <= (pd < 0 ? 0 : 9); pk++) {
                for (int qd = -1; qd < rates.size(); qd++) {
                    for (int qk = qd < 0 ? 0 : 1; qk <= (qd < 0 ? 0 : 9); qk++) {
                        int a = pd < 0 ? 0 : pk * rates.get(pd);
                        int b = qd < 0 ? 0 : qk * rates.get(qd);
                        int till = a > b ? a : b;
                        int pAge = p.age + (till - a);
                        int qAge = q.age + (till - b);
                        if (pAge == qAge && pAge < p.lives && qAge < q.lives && (best == NONE || till < best)) {
                            best = till;
                            four = 1000 * (pd + 1) + 100 * pk + 10 * (qd + 1) + qk;
                        }
                    }
                }
            }
        }
        return what == 0 ? best : four;
    }

    int leave(int n, int what) {
        if (n < 0 || n > 300 || what < 0 || what > 1) return OUTSIDE;
        int best = NONE;
        int most = NONE;
        for (int g = 0; g < goods.size(); g++) {
            int worth = worthBehind(g, now.worth.get(g), n);
            if (best == NONE || worth > most) {
                best = g;
                most = worth;
            }
        }
        return what == 0 ? best : most;
    }

    int when(int g, int v) {
        if (noGood(g)) return UNKNOWN;
        if (v < 0 || v > 9999) return OUTSIDE;
        for (int y = 0; y <= 300; y++) {
            if (worthBehind(g, now.worth.get(g), y) >= v) return y;
        }
        return NONE;
    }

    int letters(int d, int n) {
        if (noDepth(d)) return UNKNOWN;
        if (n < 1 || n > 9) return OUTSIDE;
        int at = now.years;
        for (int i = 0; i < n; i++) {
            do {
                at++;
            } while (at % rates.get(d) != 0);
        }
        return at - now.years;
    }

    int wouldOpen(int i) {
        if (noPerson(i)) return UNKNOWN;
        Person p = now.persons.get(i);
        if (!p.above()) return NOT;
        return p.age + p.box >= p.lives ? NONE : p.age + p.box;
    }

    int yearsLeft(int i) {
        if (noPerson(i)) return UNKNOWN;
        Person p = now.persons.get(i);
        return p.above() ? p.lives - p.age : NOT;
    }

    int latest() {
        int best = NONE;
        for (int i = 0; i < now.persons.size(); i++) {
            if (now.persons.get(i).above() && (best == NONE || yearsLeft(i) > yearsLeft(best))) best = i;
        }
        return best;
    }

    int storm(int n, int q) {
        if (n < 0 || n > 60 || q < 0 || q > 100) return OUTSIDE;
        long odds = 1000000000L;
        for (int i = 0; i < n; i++) odds = odds * (100 - q) / 100;
        return (int) odds;
    }

    int find(int kind, int number, int v) {
        if (kind == 0 && noGood(number)) return UNKNOWN;
        if (kind != 0 && kind != 1) return OUTSIDE;
        if (kind == 1 && number != 0) return OUTSIDE;
        if (v < 0 || v > 9999) return OUTSIDE;
        if (found.size() == 6) return FULL;
        found.add(new int[] {kind, number, v});
        return found.size();
    }

    private int worthBy(int g, int stay) {
        return worthBehind(g, goods.get(g)[0], stay % 100 * rates.get(stay / 100));
    }

    private List<Integer> fitting() {
        List<Integer> all = new ArrayList<>();
        for (int d = 0; d < rates.size(); d++) {
            for (int k = 0; k <= 30; k++) {
                boolean fits = true;
                for (int[] f : found) {
                    int then = f[0] == 0 ? worthBy(f[1], 100 * d + k) : king(k * rates.get(d));
                    fits &= then == f[2];
                }
                if (fits) all.add(100 * d + k);
            }
        }
        return all;
    }

    int stays(int i) {
        List<Integer> all = fitting();
        if (i == NONE) return all.size();
        return i < 0 || i >= all.size() ? NONE : all.get(i);
    }

    int ask() {
        List<Integer> all = fitting();
        int best = NONE;
        int least = Integer.MAX_VALUE;
        for (int g = 0; g < goods.size(); g++) {
            Map<Integer, Integer> parts = new HashMap<>();
            int greatest = 0;
            for (int stay : all) greatest = Math.max(greatest, parts.merge(worthBy(g, stay), 1, Integer::sum));
            if (parts.size() > 1 && greatest < least) {
                best = g;
                least = greatest;
            }
        }
        return best;
    }

    int write(int p, int age) {
        if (noPerson(p)) return UNKNOWN;
        if (age < 0 || age > 9999) return OUTSIDE;
        if (book.size() == 15) return FULL;
        book.add(new int[] {p, age});
        return book.size();
    }

    int tear() {
        int had = found.size() + book.size();
        found.clear();
        book.clear();
        return had;
    }

    int judge() {
        for (int i = 0; i < book.size(); i++) {
            if (now.persons.get(book.get(i)[0]).age != book.get(i)[1]) return i;
        }
        return NONE;
    }

    int seed(int v) {
        if (v < 0) return OUTSIDE;
        int was = (int) seed;
        seed = v;
        return was;
    }

    int keep(int i) {
        if (i < 0 || i > 1) return UNKNOWN;
        images[i] = now.copy();
        imageSeeds[i] = seed;
        past.clear();
        return 1;
    }

    int goBack(int i) {
        if (i < 0 || i > 1) return UNKNOWN;
        if (images[i] == null) return NOT;
        now = images[i].copy();
        seed = imageSeeds[i];
        past.clear();
        return 1;
    }
}

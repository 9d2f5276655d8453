/** A shore, a palace below it, and the years between: see the document's promises 1 to 33. */
public final class ThreeBelow {
    public static final int NONE = -1, UNKNOWN = -1000000001, OUTSIDE = -1000000002, NOT = -1000000003, FULL = -1000000004;

    private static final int MOST_LETTERS = 240;
    private static final int MOST_DEPTHS = 4;
    private static final int MOST_PERSONS = 7;
    private static final int MOST_GOODS = 6;
    private static final int LAST_YEAR = 90000;
    private static final int MOST_YEARS_AT_ONCE = 300;
    private static final int MOST_YEARS_ADRIFT = 60;
    private static final int BILLION = 1000000000;
    private static final int LOW_31_BITS = 2147483647;
    /** Above all that is weighed against it, so that whatever can be is less. */
    private static final int NEVER = 2147483647;

    private final ShoreText text = new ShoreText();
    private Shore land = new Shore();
    // A text is read into the draft, so that a fault leaves the land as it was.
    private Shore draft = new Shore();
    private final Life life = new Life();
    private final Past past = new Past();
    private final Images images = new Images();
    private final Finds finds = new Finds();
    private final Book book = new Book();
    private int seedNow;

    public ThreeBelow() {
    }

    // ---- the shore

    public int feed(int letter) {
        if (letter < 0 || letter > 255) {
            return OUTSIDE;
        }
        if (text.length >= MOST_LETTERS) {
            return FULL;
        }
        text.add(letter);
        return text.length;
    }

    public int shore() {
        text.readInto(draft);
        text.empty();
        if (text.faultNumber != 0) {
            return -10 - text.faultNumber;
        }
        Shore before = land;
        land = draft;
        draft = before;
        life.begin(land);
        past.forget();
        images.forget();
        finds.beginAnew();
        book.empty();
        return land.persons;
    }

    public int fault() {
        return text.faultAt;
    }

    public int told(int what) {
        switch (what) {
            case 0: return land.law;
            case 1: return land.reign;
            case 2: return land.depths;
            case 3: return land.persons;
            case 4: return land.goods;
            case 5: return text.length;
            case 6: return life.years();
            case 7: return land.kingAt(life.years());
            case 8: return life.deadOnes(land);
            case 9: return life.stayersOf(land, 0);
            case 10: return life.stayersOf(land, land.law);
            case 11: return finds.count;
            case 12: return book.count;
            case 13: return past.count;
            default: return OUTSIDE;
        }
    }

    public int depth(int d) {
        return land.hasDepth(d) ? land.rate[d] : UNKNOWN;
    }

    public int person(int p, int what) {
        if (!land.hasPerson(p)) {
            return UNKNOWN;
        }
        switch (what) {
            case 0: return life.age(p);
            case 1: return land.lifespan[p];
            case 2: return life.place(p);
            case 3: return life.box(p);
            case 4: return life.daysBelow(land, p);
            default: return OUTSIDE;
        }
    }

    public int good(int g, int what) {
        if (!land.hasGood(g)) {
            return UNKNOWN;
        }
        switch (what) {
            case 0: return life.worth(g);
            case 1: return land.toldWorth[g];
            case 2: return land.change[g];
            case 3: return land.mostWorth[g];
            default: return OUTSIDE;
        }
    }

    // ---- what is done

    public int year(int n) {
        int refusal = refuseYears(n, MOST_YEARS_AT_ONCE);
        if (refusal != 0) {
            return refusal;
        }
        past.remember(life);
        life.passYears(land, n);
        return life.years();
    }

    public int down(int p, int d) {
        if (!land.hasPerson(p) || !land.hasDepth(d)) {
            return UNKNOWN;
        }
        if (!life.isAbove(p)) {
            return NOT;
        }
        past.remember(life);
        life.goDown(p, d);
        return life.age(p);
    }

    public int up(int p) {
        if (!land.hasPerson(p)) {
            return UNKNOWN;
        }
        if (!life.isBelow(p)) {
            return NOT;
        }
        past.remember(life);
        int days = life.daysBelow(land, p);
        life.comeUp(p);
        return days;
    }

    public int open(int p) {
        int refusal = refuseUnlessAbove(p);
        if (refusal != 0) {
            return refusal;
        }
        past.remember(life);
        life.openBox(land, p);
        return life.age(p);
    }

    public int take(int g) {
        if (!land.hasGood(g)) {
            return UNKNOWN;
        }
        int worth = life.worth(g);
        if (worth == 0) {
            return NOT;
        }
        past.remember(life);
        life.takeGood(g);
        return worth;
    }

    public int drift(int n) {
        int refusal = refuseYears(n, MOST_YEARS_ADRIFT);
        if (refusal != 0) {
            return refusal;
        }
        past.remember(life);
        for (int i = 0; i < n; i++) {
            driftOne();
            life.passYears(land, 1);
        }
        return life.years();
    }

    public int undo() {
        if (past.count == 0) {
            return NOT;
        }
        past.bringBack(life);
        return past.count;
    }

    private int refuseYears(int n, int most) {
        if (n < 1 || n > most) {
            return OUTSIDE;
        }
        if (!land.isTold()) {
            return NOT;
        }
        return life.years() > LAST_YEAR ? FULL : 0;
    }

    private int refuseUnlessAbove(int p) {
        if (!land.hasPerson(p)) {
            return UNKNOWN;
        }
        return life.isAbove(p) ? 0 : NOT;
    }

    private boolean areTwoPersons(int p, int q) {
        return land.hasPerson(p) && land.hasPerson(q) && p != q;
    }

    /** Both numbers are drawn whatever becomes of them: the seed must not hang on where people are. */
    private void driftOne() {
        if (land.persons == 0 || land.depths == 0) {
            return;
        }
        int p = draw(land.persons);
        int d = draw(land.depths + 2);
        if (d < land.depths) {
            if (life.isAbove(p)) {
                life.goDown(p, d);
            }
        } else if (life.isBelow(p)) {
            life.comeUp(p);
        }
    }

    private int draw(int n) {
        // The wrap at 2 to the 32 keeps the low 31 bits right, and these are all that is left over.
        seedNow = (seedNow * 1103515245 + 12345) & LOW_31_BITS;
        return n < 1 ? 0 : seedNow / 65536 % n;
    }

    // ---- tried

    public int meet(int p, int q, int d, int older, int what) {
        if (!areTwoPersons(p, q) || !land.hasDepth(d)) {
            return UNKNOWN;
        }
        if (older < -199 || older > 199 || what < 0 || what > 1) {
            return OUTSIDE;
        }
        if (!life.isAbove(p) || !life.isAbove(q)) {
            return NOT;
        }
        int best = NEVER;
        for (int days = 0; days <= 99; days++) {
            int age = life.age(p) + days * land.rate[d];
            if (age < land.lifespan[p]) {
                int miss = Math.abs(age - life.age(q) - older);
                best = Math.min(best, miss * 100 + days);
            }
        }
        if (best == NEVER) {
            return NONE;
        }
        return what == 0 ? best % 100 : best / 100;
    }

    public int both(int p, int q, int what) {
        if (!areTwoPersons(p, q)) {
            return UNKNOWN;
        }
        if (what < 0 || what > 1) {
            return OUTSIDE;
        }
        if (!life.isAbove(p) || !life.isAbove(q)) {
            return NOT;
        }
        int best = NEVER;
        for (int pStay = 0; pStay <= 9 * land.depths; pStay++) {
            for (int qStay = 0; qStay <= 9 * land.depths; qStay++) {
                best = Math.min(best, bothBy(p, pStay, q, qStay));
            }
        }
        if (best == NEVER) {
            return NONE;
        }
        return what == 0 ? best / 10000 : best % 10000;
    }

    /** The years till both are up and, in the lowest four figures, the two stays; NEVER if they do not meet. */
    private int bothBy(int p, int pStay, int q, int qStay) {
        int pBelow = yearsOfStay(pStay);
        int qBelow = yearsOfStay(qStay);
        int till = Math.max(pBelow, qBelow);
        int pAge = life.age(p) + till - pBelow;
        int qAge = life.age(q) + till - qBelow;
        if (pAge != qAge || pAge >= land.lifespan[p] || qAge >= land.lifespan[q]) {
            return NEVER;
        }
        return till * 10000 + figuresOfStay(pStay) * 100 + figuresOfStay(qStay);
    }

    /** Stay 0 is none at all; behind it come 1 to 9 days at depth 0, then those at depth 1, and on. */
    private int yearsOfStay(int stay) {
        int d = (stay - 1) / 9;
        return stay < 1 || !land.hasDepth(d) ? 0 : land.rate[d] * ((stay - 1) % 9 + 1);
    }

    private int figuresOfStay(int stay) {
        return stay < 1 ? 0 : 10 * ((stay - 1) / 9 + 1) + (stay - 1) % 9 + 1;
    }

    public int leave(int n, int what) {
        if (n < 0 || n > 300 || what < 0 || what > 1) {
            return OUTSIDE;
        }
        int best = NONE;
        int bestWorth = NONE;
        for (int g = 0; g < land.goods; g++) {
            int worth = land.worthBehind(g, life.worth(g), n);
            if (worth > bestWorth) {
                best = g;
                bestWorth = worth;
            }
        }
        return what == 0 ? best : bestWorth;
    }

    public int when(int g, int v) {
        if (!land.hasGood(g)) {
            return UNKNOWN;
        }
        if (v < 0 || v > 9999) {
            return OUTSIDE;
        }
        int worth = life.worth(g);
        for (int years = 0; years <= 300; years++) {
            if (worth >= v) {
                return years;
            }
            worth = land.worthNextYear(g, worth);
        }
        return NONE;
    }

    public int letters(int d, int n) {
        if (!land.hasDepth(d)) {
            return UNKNOWN;
        }
        if (n < 1 || n > 9) {
            return OUTSIDE;
        }
        // Each answer comes just as a day begins, so every letter behind the first takes a whole day.
        return land.daysIn(d, life.years()) * land.rate[d] + n * land.rate[d] - life.years();
    }

    public int wouldOpen(int p) {
        int refusal = refuseUnlessAbove(p);
        if (refusal != 0) {
            return refusal;
        }
        int age = life.age(p) + life.box(p);
        return age < land.lifespan[p] ? age : NONE;
    }

    public int yearsLeft(int p) {
        int refusal = refuseUnlessAbove(p);
        return refusal != 0 ? refusal : land.lifespan[p] - life.age(p);
    }

    public int latest() {
        int last = NONE;
        int most = 0;
        for (int p = 0; p < land.persons; p++) {
            int left = land.lifespan[p] - life.age(p);
            if (life.isAbove(p) && left > most) {
                last = p;
                most = left;
            }
        }
        return last;
    }

    public int storm(int n, int q) {
        if (n < 0 || n > 60 || q < 0 || q > 100) {
            return OUTSIDE;
        }
        long odds = BILLION;
        for (int i = 0; i < n; i++) {
            odds = odds * (100 - q) / 100;
        }
        return (int) odds;
    }

    // ---- what is found

    public int find(int kind, int number, int v) {
        if (kind == 0 && !land.hasGood(number)) {
            return UNKNOWN;
        }
        if (kind < 0 || kind > 1 || kind == 1 && number != 0 || v < 0 || v > 9999) {
            return OUTSIDE;
        }
        if (finds.count >= Finds.MOST) {
            return FULL;
        }
        finds.add(kind, number, v);
        return finds.count;
    }

    public int stays(int i) {
        finds.seek(land);
        if (i == NONE) {
            return finds.fitting;
        }
        return i < 0 || i >= finds.fitting ? NONE : finds.fit[i];
    }

    public int ask() {
        finds.seek(land);
        int best = NONE;
        // Only a part smaller than the whole parts them.
        int least = finds.fitting;
        for (int g = 0; g < land.goods; g++) {
            int part = finds.greatestPart(g);
            if (part < least) {
                best = g;
                least = part;
            }
        }
        return best;
    }

    public int write(int p, int age) {
        if (!land.hasPerson(p)) {
            return UNKNOWN;
        }
        if (age < 0 || age > 9999) {
            return OUTSIDE;
        }
        if (book.count >= Book.MOST) {
            return FULL;
        }
        book.add(p, age);
        return book.count;
    }

    public int tear() {
        int had = finds.count + book.count;
        finds.empty();
        book.empty();
        return had;
    }

    public int judge() {
        return book.firstWrong(life);
    }

    // ---- draws, images

    public int seed(int v) {
        if (v < 0) {
            return OUTSIDE;
        }
        int before = seedNow;
        seedNow = v;
        return before;
    }

    public int keep(int i) {
        if (!images.hasPlace(i)) {
            return UNKNOWN;
        }
        images.put(i, life, seedNow);
        past.forget();
        return 1;
    }

    public int goBack(int i) {
        if (!images.hasPlace(i)) {
            return UNKNOWN;
        }
        if (!images.isKept[i]) {
            return NOT;
        }
        life.copyFrom(images.rows[i]);
        seedNow = images.seeds[i];
        past.forget();
        return 1;
    }

    /** What the text told; nothing in it changes while people live on it. */
    private static final class Shore {
        int law;
        int reign;
        int depths;
        int persons;
        int goods;
        final int[] rate = new int[MOST_DEPTHS];
        final int[] toldAge = new int[MOST_PERSONS];
        final int[] lifespan = new int[MOST_PERSONS];
        final int[] toldWorth = new int[MOST_GOODS];
        final int[] change = new int[MOST_GOODS];
        final int[] mostWorth = new int[MOST_GOODS];

        void empty() {
            law = 0;
            reign = 0;
            depths = 0;
            persons = 0;
            goods = 0;
        }

        boolean isTold() {
            return law > 0;
        }

        boolean hasDepth(int d) {
            return d >= 0 && d < depths && d < MOST_DEPTHS;
        }

        boolean hasPerson(int p) {
            return p >= 0 && p < persons && p < MOST_PERSONS;
        }

        boolean hasGood(int g) {
            return g >= 0 && g < goods && g < MOST_GOODS;
        }

        boolean hasRoomFor(int word) {
            switch (word) {
                case 's': return !isTold();
                case 'd': return depths < MOST_DEPTHS;
                case 'p': return persons < MOST_PERSONS;
                case 'g': return goods < MOST_GOODS;
                default: return false;
            }
        }

        void add(int word, int first, int second, int third) {
            if (!hasRoomFor(word)) {
                return;
            }
            switch (word) {
                case 's':
                    law = first;
                    reign = second;
                    break;
                case 'd':
                    rate[depths] = first;
                    depths++;
                    break;
                case 'p':
                    toldAge[persons] = first;
                    lifespan[persons] = second;
                    persons++;
                    break;
                default:
                    toldWorth[goods] = first;
                    change[goods] = second;
                    mostWorth[goods] = third;
                    goods++;
                    break;
            }
        }

        int kingAt(int years) {
            return reign > 0 ? years / reign : 0;
        }

        int daysIn(int d, int years) {
            return hasDepth(d) && rate[d] > 0 ? years / rate[d] : 0;
        }

        int worthNextYear(int g, int worth) {
            if (!hasGood(g)) {
                return worth;
            }
            if (change[g] > 50) {
                return worth - worth * (change[g] - 50) / 100;
            }
            int more = worth + worth * change[g] / 100;
            return more <= mostWorth[g] ? more : worth;
        }

        int worthBehind(int g, int worth, int years) {
            int now = worth;
            for (int y = 0; y < years; y++) {
                int next = worthNextYear(g, now);
                if (next == now) {
                    // What did not change in one year never will.
                    return now;
                }
                now = next;
            }
            return now;
        }
    }

    /** The text, and how it is read into a shore, up to its first fault. */
    private static final class ShoreText {
        private static final String WORDS = "sdpg";
        private static final int[] NUMBERS_OF_WORD = {2, 1, 2, 3};
        private static final int[] FIRST_BOUND_OF_WORD = {0, 2, 3, 5};
        private static final int[] LEAST = {1, 1, 1, 0, 1, 1, 0, 0};
        private static final int[] GREATEST = {99, 60, 200, 99, 150, 999, 100, 9999};
        private static final int CANNOT_STAND = 1;
        private static final int BAD_NUMBER = 2;
        private static final int TOO_MANY = 3;
        private static final int MOST_FIGURES = 4;
        private static final int END = -1;

        private final int[] signs = new int[MOST_LETTERS];
        private final int[] numbers = new int[3];
        int length;
        private int at;
        int faultNumber;
        int faultAt = NONE;

        void add(int letter) {
            if (length < MOST_LETTERS) {
                signs[length] = letter;
                length++;
            }
        }

        void empty() {
            length = 0;
        }

        void readInto(Shore shore) {
            at = 0;
            faultNumber = 0;
            faultAt = NONE;
            shore.empty();
            readClauses(shore);
        }

        private void readClauses(Shore shore) {
            // Every clause takes a letter at least.
            for (int i = 0; i <= MOST_LETTERS && faultNumber == 0; i++) {
                skipBlanks();
                if (here() == END) {
                    // A text without a clause tells no shore, and that is no fault.
                    return;
                }
                readClause(shore);
            }
        }

        private void readClause(Shore shore) {
            int word = here();
            int kind = WORDS.indexOf((char) word);
            if (kind < 0 || !shore.isTold() && kind != 0) {
                blame(CANNOT_STAND, at);
                return;
            }
            if (!shore.hasRoomFor(word)) {
                blame(TOO_MANY, at);
                return;
            }
            at++;
            for (int i = 0; i < NUMBERS_OF_WORD[kind] && faultNumber == 0; i++) {
                readNumber(i, FIRST_BOUND_OF_WORD[kind] + i);
            }
            if (faultNumber == 0) {
                readSemicolon();
            }
            if (faultNumber == 0) {
                shore.add(word, numbers[0], numbers[1], numbers[2]);
            }
        }

        private void readNumber(int place, int bound) {
            skipBlanks();
            int start = at;
            int value = 0;
            for (int i = 0; i <= MOST_LETTERS && isFigure(here()); i++) {
                if (i < MOST_FIGURES) {
                    value = value * 10 + here() - '0';
                }
                at++;
            }
            if (at == start) {
                blame(CANNOT_STAND, at);
            } else if (at - start > MOST_FIGURES || value < LEAST[bound] || value > GREATEST[bound]) {
                blame(BAD_NUMBER, start);
            } else {
                numbers[place] = value;
            }
        }

        private void readSemicolon() {
            skipBlanks();
            if (here() == ';') {
                at++;
            } else {
                blame(CANNOT_STAND, at);
            }
        }

        private void skipBlanks() {
            for (int i = 0; i <= MOST_LETTERS && here() == ' '; i++) {
                at++;
            }
        }

        private int here() {
            return at < length && at < MOST_LETTERS ? signs[at] : END;
        }

        private boolean isFigure(int letter) {
            return letter >= '0' && letter <= '9';
        }

        private void blame(int number, int place) {
            faultNumber = number;
            faultAt = place;
        }
    }

    /** All that can be undone and kept, in one row, so that keeping it is one copy. */
    private static final class Life {
        static final int CELLS = 1 + 4 * MOST_PERSONS + MOST_GOODS;
        private static final int YEARS = 0;
        private static final int AGE = 1;
        private static final int PLACE = AGE + MOST_PERSONS;
        private static final int BOX = PLACE + MOST_PERSONS;
        private static final int STAY = BOX + MOST_PERSONS;
        private static final int WORTH = STAY + MOST_PERSONS;
        private static final int ABOVE = 0;
        private static final int DEAD = 1;
        private static final int BELOW = 10;

        private final int[] row = new int[CELLS];

        void begin(Shore shore) {
            for (int i = 0; i < CELLS; i++) {
                row[i] = 0;
            }
            for (int p = 0; p < shore.persons; p++) {
                row[AGE + p] = shore.toldAge[p];
                buryIfOld(shore, p);
            }
            for (int g = 0; g < shore.goods; g++) {
                row[WORTH + g] = shore.toldWorth[g];
            }
        }

        void copyTo(int[] other) {
            System.arraycopy(row, 0, other, 0, Math.min(CELLS, other.length));
        }

        void copyFrom(int[] other) {
            System.arraycopy(other, 0, row, 0, Math.min(CELLS, other.length));
        }

        int years() {
            return row[YEARS];
        }

        int age(int p) {
            return isPerson(p) ? row[AGE + p] : 0;
        }

        int place(int p) {
            return isPerson(p) ? row[PLACE + p] : DEAD;
        }

        int box(int p) {
            return isPerson(p) ? row[BOX + p] : 0;
        }

        int worth(int g) {
            return isGood(g) ? row[WORTH + g] : 0;
        }

        boolean isAbove(int p) {
            return place(p) == ABOVE;
        }

        boolean isBelow(int p) {
            return place(p) >= BELOW;
        }

        int daysBelow(Shore shore, int p) {
            return isBelow(p) ? shore.daysIn(place(p) - BELOW, row[STAY + p]) : 0;
        }

        int deadOnes(Shore shore) {
            int set = 0;
            for (int p = 0; p < shore.persons; p++) {
                if (place(p) == DEAD) {
                    set |= 1 << p;
                }
            }
            return set;
        }

        int stayersOf(Shore shore, int years) {
            int set = 0;
            for (int p = 0; p < shore.persons; p++) {
                if (isBelow(p) && row[STAY + p] >= years) {
                    set |= 1 << p;
                }
            }
            return set;
        }

        void passYears(Shore shore, int n) {
            row[YEARS] += n;
            for (int p = 0; p < shore.persons; p++) {
                if (isAbove(p)) {
                    row[AGE + p] += Math.min(n, shore.lifespan[p] - row[AGE + p]);
                    buryIfOld(shore, p);
                } else if (isBelow(p)) {
                    row[BOX + p] += n;
                    row[STAY + p] += n;
                }
            }
            for (int g = 0; g < shore.goods; g++) {
                row[WORTH + g] = shore.worthBehind(g, row[WORTH + g], n);
            }
        }

        void goDown(int p, int d) {
            if (isPerson(p)) {
                row[PLACE + p] = BELOW + d;
                row[STAY + p] = 0;
            }
        }

        void comeUp(int p) {
            if (isPerson(p)) {
                row[PLACE + p] = ABOVE;
            }
        }

        void openBox(Shore shore, int p) {
            if (isPerson(p)) {
                row[AGE + p] += row[BOX + p];
                row[BOX + p] = 0;
                buryIfOld(shore, p);
            }
        }

        void takeGood(int g) {
            if (isGood(g)) {
                row[WORTH + g] = 0;
            }
        }

        private void buryIfOld(Shore shore, int p) {
            if (row[AGE + p] >= shore.lifespan[p]) {
                row[PLACE + p] = DEAD;
            }
        }

        private static boolean isPerson(int p) {
            return p >= 0 && p < MOST_PERSONS;
        }

        private static boolean isGood(int g) {
            return g >= 0 && g < MOST_GOODS;
        }
    }

    /** The lives ahead of the latest deeds, in a ring: the oldest gives its row to the newest. */
    private static final class Past {
        private static final int MOST = 20;

        private final int[][] rows = new int[MOST][Life.CELLS];
        private int next;
        int count;

        void forget() {
            count = 0;
        }

        void remember(Life life) {
            life.copyTo(rows[next]);
            next = (next + 1) % MOST;
            count = Math.min(count + 1, MOST);
        }

        void bringBack(Life life) {
            if (count > 0) {
                next = (next + MOST - 1) % MOST;
                count--;
                life.copyFrom(rows[next]);
            }
        }
    }

    private static final class Images {
        private static final int MOST = 2;

        final int[][] rows = new int[MOST][Life.CELLS];
        final int[] seeds = new int[MOST];
        final boolean[] isKept = new boolean[MOST];

        boolean hasPlace(int i) {
            return i >= 0 && i < MOST;
        }

        void forget() {
            for (int i = 0; i < MOST; i++) {
                isKept[i] = false;
            }
        }

        void put(int i, Life life, int seed) {
            if (hasPlace(i)) {
                life.copyTo(rows[i]);
                seeds[i] = seed;
                isKept[i] = true;
            }
        }
    }

    /** What was found, and the stays that fit all of it. */
    private static final class Finds {
        static final int MOST = 6;
        private static final int MOST_DAYS = 30;
        private static final int DAYS_OF_DEPTH = MOST_DAYS + 1;
        private static final int MOST_STAYS = MOST_DEPTHS * DAYS_OF_DEPTH;

        private final int[] kinds = new int[MOST];
        private final int[] numbers = new int[MOST];
        private final int[] values = new int[MOST];
        int count;

        // What goods are worth behind each stay hangs on the shore alone: it is counted once for a shore.
        private final int[][] worthThen = new int[MOST_GOODS][MOST_STAYS];
        private boolean isCounted;
        final int[] fit = new int[MOST_STAYS];
        int fitting;
        private boolean isSought;

        void beginAnew() {
            isCounted = false;
            empty();
        }

        void empty() {
            count = 0;
            isSought = false;
        }

        void add(int kind, int number, int value) {
            if (count < MOST) {
                kinds[count] = kind;
                numbers[count] = number;
                values[count] = value;
                count++;
                isSought = false;
            }
        }

        /** Lists the stays that fit, if they are not listed yet. */
        void seek(Shore shore) {
            if (isSought) {
                return;
            }
            countWorths(shore);
            fitting = 0;
            for (int d = 0; d < shore.depths; d++) {
                for (int days = 0; days <= MOST_DAYS; days++) {
                    if (fitsAll(shore, d, days)) {
                        fit[fitting] = 100 * d + days;
                        fitting++;
                    }
                }
            }
            isSought = true;
        }

        /** How many of the stays that fit are alike, at most, by what a good is worth then. */
        int greatestPart(int g) {
            int greatest = 0;
            // A part that begins behind this bound is too small to be the greatest.
            for (int i = 0; i < fitting - greatest; i++) {
                greatest = Math.max(greatest, alikeFrom(g, i));
            }
            return greatest;
        }

        private int alikeFrom(int g, int first) {
            int worth = worthBy(g, fit[first]);
            int alike = 0;
            for (int i = first; i < fitting; i++) {
                if (worthBy(g, fit[i]) == worth) {
                    alike++;
                }
            }
            return alike;
        }

        private boolean fitsAll(Shore shore, int d, int days) {
            for (int i = 0; i < count; i++) {
                int then = kinds[i] == 0
                        ? worthBy(numbers[i], 100 * d + days)
                        : shore.kingAt(days * shore.rate[d]);
                if (then != values[i]) {
                    return false;
                }
            }
            return true;
        }

        private int worthBy(int g, int stay) {
            int place = stay / 100 * DAYS_OF_DEPTH + stay % 100;
            return g < 0 || g >= MOST_GOODS || place < 0 || place >= MOST_STAYS ? 0 : worthThen[g][place];
        }

        private void countWorths(Shore shore) {
            if (isCounted) {
                return;
            }
            for (int g = 0; g < shore.goods; g++) {
                for (int d = 0; d < shore.depths; d++) {
                    int worth = shore.toldWorth[g];
                    for (int days = 0; days <= MOST_DAYS; days++) {
                        worthThen[g][d * DAYS_OF_DEPTH + days] = worth;
                        worth = shore.worthBehind(g, worth, shore.rate[d]);
                    }
                }
            }
            isCounted = true;
        }
    }

    private static final class Book {
        static final int MOST = 15;

        private final int[] who = new int[MOST];
        private final int[] ages = new int[MOST];
        int count;

        void empty() {
            count = 0;
        }

        void add(int p, int age) {
            if (count < MOST) {
                who[count] = p;
                ages[count] = age;
                count++;
            }
        }

        int firstWrong(Life life) {
            for (int i = 0; i < count && i < MOST; i++) {
                if (life.age(who[i]) != ages[i]) {
                    return i;
                }
            }
            return NONE;
        }
    }
}

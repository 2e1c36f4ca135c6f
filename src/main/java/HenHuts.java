import java.util.Arrays;

/** Huts on hen's legs that turn by words; the numbered promises stand in the document DOC.md. */
public final class HenHuts {
    public static final int UNKNOWN = -1, OUTSIDE = -2, STATE = -3, FULL = -4, NO = -5, NONE = -6;
    public static final long GONE = -1000000000000000000L;

    private static final int MOST_HUTS = 5;
    private static final int MOST_WORDS = 6;
    private static final int MOST_SIGNS = 60;
    private static final int MOST_SIGHTS = 6;
    private static final int MOST_LEGS = 30;
    private static final int MOST_LOOKS = 1024;
    private static final int MOST_QUARTERS = 3 * MOST_HUTS * MOST_LOOKS;
    private static final int NEAR_HUTS = 3, NEAR = 64, FAR = 16;
    private static final int MOST_ROW = 5;
    private static final int IMAGES = 2;
    private static final int SIDE = 5;
    private static final int DEAF = 1, CONTRARY = 2, ODD = 3;

    private final Wood wood = new Wood();
    private final Wood[] images = new Wood[IMAGES];
    private final boolean[] kept = new boolean[IMAGES];
    private final Pad pad = new Pad();
    private final Evening evening = new Evening();
    private final Paths paths = new Paths();
    private final Legwork legwork = new Legwork();
    private final Postman postman = new Postman();
    private final Callers callers = new Callers();
    private final Dance dance = new Dance();
    private final Trail trail = new Trail();

    public HenHuts() {
        for (int i = 0; i < IMAGES; i++) {
            images[i] = new Wood();
        }
    }

    // ---- 1 huts, words

    public int huts(int n) {
        if (n < 1 || n > MOST_HUTS) {
            return OUTSIDE;
        }
        int was = wood.huts;
        wood.plant(n);
        return was;
    }

    public int hut(int hut, int what, int v) {
        if (!wood.hasHut(hut)) {
            return UNKNOWN;
        }
        if (!isWithin(what, 0, 3) || !isWithin(v, 0, mostOf(what))) {
            return OUTSIDE;
        }
        if (what == 3 && wood.isTaken(v, hut)) {
            return STATE;
        }
        return wood.alter(hut, what, v);
    }

    public int say(int sign) {
        if (!isWithin(sign, 33, 126)) {
            return OUTSIDE;
        }
        return pad.add(sign);
    }

    public int wipe() {
        return pad.clear();
    }

    public int fault(int how) {
        if (!isWithin(how, 0, 1)) {
            return OUTSIDE;
        }
        return how == 0 ? pad.spellFault(wood.huts) : pad.eveningFault(wood.huts);
    }

    public int word(int word) {
        if (!isWithin(word, 0, MOST_WORDS - 1)) {
            return UNKNOWN;
        }
        if (pad.spellFault(wood.huts) != NONE) {
            return NO;
        }
        for (int hut = 0; hut < wood.huts; hut++) {
            wood.turns[word * MOST_HUTS + hut] = pad.signAt(hut) - '0';
        }
        wood.known |= 1 << word;
        pad.clear();
        return Integer.bitCount(wood.known);
    }

    public int unword(int word) {
        if (!wood.knows(word)) {
            return UNKNOWN;
        }
        wood.known &= ~(1 << word);
        return Integer.bitCount(wood.known);
    }

    // ---- 2 evenings

    public int judge(int what) {
        if (!isWithin(what, 0, 3)) {
            return OUTSIDE;
        }
        if (pad.eveningFault(wood.huts) != NONE) {
            return NO;
        }
        evening.play(wood, pad);
        if (what == 0) {
            return evening.why == 0 ? NONE : evening.events;
        }
        if (what == 1) {
            return evening.why == 0 ? NONE : evening.why;
        }
        if (evening.why != 0) {
            return STATE;
        }
        return what == 2 ? evening.quarters : evening.letIn;
    }

    public int behind(int hut, int what) {
        if (!wood.hasHut(hut)) {
            return UNKNOWN;
        }
        if (!isWithin(what, 0, 1)) {
            return OUTSIDE;
        }
        int refused = playWhole();
        if (refused != 0) {
            return refused;
        }
        return what == 0 ? evening.looks[hut] : evening.legs[hut];
    }

    public int done() {
        int refused = playWhole();
        if (refused != 0) {
            return refused;
        }
        evening.leaveTo(wood);
        pad.clear();
        return evening.events;
    }

    public int state(int hut, int what) {
        if (!wood.hasHut(hut)) {
            return UNKNOWN;
        }
        if (!isWithin(what, 0, 1)) {
            return OUTSIDE;
        }
        return what == 0 ? wood.looks[hut] : wood.legs[hut];
    }

    public int bare(int word, int hut) {
        if (!wood.knows(word) || !wood.hasHut(hut)) {
            return UNKNOWN;
        }
        int quarters = wood.quarters(word, hut, wood.looks[hut]);
        return quarters == 0 || quarters > wood.legs[hut] ? 1 : 0;
    }

    // ---- 3 spells

    public int reached() {
        paths.explore(wood, wood.known);
        return paths.found;
    }

    public int can(int looks) {
        if (!wood.hasLooks(looks)) {
            return OUTSIDE;
        }
        paths.explore(wood, wood.known);
        return paths.depth[looks] < 0 ? 0 : 1;
    }

    public int spelled(int set, int looks, int i) {
        if (!isAim(set, looks)) {
            return OUTSIDE;
        }
        paths.explore(wood, wood.known);
        int end = paths.firstLooking(set, looks);
        if (end < 0) {
            return NONE;
        }
        return i == -1 ? paths.depth[end] : paths.wordOfRow(end, i);
    }

    public int tired(int set, int looks) {
        if (!isAim(set, looks)) {
            return OUTSIDE;
        }
        return paths.leastQuarters(wood, set, looks);
    }

    public int able(int set, int looks) {
        if (!isAim(set, looks)) {
            return OUTSIDE;
        }
        return legwork.fewestWords(wood, set, looks);
    }

    public int without(int word, int set, int looks) {
        if (!wood.knows(word)) {
            return UNKNOWN;
        }
        if (!isAim(set, looks)) {
            return OUTSIDE;
        }
        int less = fewestWords(wood.known & ~(1 << word), set, looks);
        // what can be without the WORD can be with it too, so one look for NONE is enough
        return less == NONE ? NONE : less - fewestWords(wood.known, set, looks);
    }

    public int round(int set, int sides) {
        if (!wood.hasSet(set)) {
            return OUTSIDE;
        }
        int looks = looksOfSides(set, sides);
        return looks < 0 ? OUTSIDE : postman.fewestMinutes(wood, paths.steps, set, looks);
    }

    // ---- 4 callers, dances, tracks

    public int two(int hut, int side, int other, int words, int otherWords, int what) {
        if (!wood.hasHut(hut)) {
            return UNKNOWN;
        }
        if (!isWithin(side, 0, 3) || !isWithin(other, 0, 3) || side == other) {
            return OUTSIDE;
        }
        if (!wood.knowsAll(words) || !wood.knowsAll(otherWords) || !isWithin(what, 0, 1)) {
            return OUTSIDE;
        }
        callers.settle(wood, hut, side, other, words, otherWords);
        int now = wood.looks[hut];
        return what == 0 ? callers.who[now] : callers.after[now];
    }

    public int pairs() {
        dance.survey(wood);
        return dance.pairsIn(wood.number());
    }

    public int danced(int many) {
        if (!isWithin(many, 1, 2)) {
            return OUTSIDE;
        }
        dance.survey(wood);
        paths.explore(wood, wood.known);
        for (int i = 0; i < paths.found; i++) {
            if (dance.pairsIn(paths.order[i]) >= many) {
                return paths.depth[paths.order[i]];
            }
        }
        return NONE;
    }

    public int elected() {
        int now = wood.number();
        int best = 0;
        for (int way = 1; way < 4; way++) {
            if (votes(now, way) > votes(now, best)) {
                best = way;
            }
        }
        return best;
    }

    public int majority(int way) {
        if (!isWithin(way, 0, 3)) {
            return OUTSIDE;
        }
        paths.explore(wood, wood.known);
        for (int i = 0; i < paths.found; i++) {
            if (2 * votes(paths.order[i], way) > wood.huts) {
                return paths.depth[paths.order[i]];
            }
        }
        return NONE;
    }

    public int seen(int hut, int events, int way) {
        if (!wood.hasHut(hut)) {
            return UNKNOWN;
        }
        if (!isWithin(events, 0, 30) || !isWithin(way, 0, 3)) {
            return OUTSIDE;
        }
        return wood.addSight(hut, events, way);
    }

    public int forget() {
        int was = wood.sights;
        wood.sights = 0;
        return was;
    }

    public int tracks(int what) {
        if (!isWithin(what, 0, 1)) {
            return OUTSIDE;
        }
        if (!isTrackable()) {
            return NO;
        }
        trail.follow(wood, pad);
        return what == 0 ? trail.many : trail.least;
    }

    public int looked(int hut) {
        if (!wood.hasHut(hut)) {
            return UNKNOWN;
        }
        if (!isTrackable()) {
            return NO;
        }
        trail.follow(wood, pad);
        return trail.many == 0 ? 0 : trail.ways[hut];
    }

    public long storm(int hut, int way, int c, int m, int part) {
        if (!wood.hasHut(hut)) {
            return GONE + UNKNOWN;
        }
        if (!isWithin(way, 0, 3) || !isWithin(c, 0, 10) || !isWithin(m, 0, 15) || !isWithin(part, 0, 1)) {
            return GONE + OUTSIDE;
        }
        long upper = stormUpper((way - wood.looks[hut]) & 3, c, m);
        long lower = 1;
        for (int i = 0; i < m; i++) {
            lower *= 10;
        }
        long shared = commonDivisor(upper, lower);
        return (part == 0 ? upper : lower) / Math.max(1, shared);
    }

    public int ninety(int seed, int m, int what) {
        if (!isWithin(seed, 0, 9999) || !isWithin(m, 1, 99) || !isWithin(what, 0, 2)) {
            return OUTSIDE;
        }
        evening.playDraws(wood, seed, m);
        switch (what) {
            case 0:
                return evening.quarters;
            case 1:
                return numberOf(evening.looks, wood.huts);
            default:
                return evening.sat;
        }
    }

    public int image(int n) {
        if (!isWithin(n, 0, IMAGES - 1)) {
            return OUTSIDE;
        }
        images[n].copyFrom(wood);
        kept[n] = true;
        return 1;
    }

    public int restore(int n) {
        if (!isWithin(n, 0, IMAGES - 1)) {
            return OUTSIDE;
        }
        if (!kept[n]) {
            return STATE;
        }
        wood.copyFrom(images[n]);
        return 1;
    }

    public int told(int what) {
        switch (what) {
            case 0:
                return pad.count;
            case 1:
                return wood.huts;
            case 2:
                return wood.known;
            case 3:
                return wood.sights;
            case 4:
                return wood.number();
            default:
                return what < 100 ? toldOfHut(what / 10 - 1, what % 10) : toldOfWord(what / 100 - 1, what % 100);
        }
    }

    private int toldOfHut(int hut, int what) {
        if (!wood.hasHut(hut)) {
            return OUTSIDE;
        }
        switch (what) {
            case 0:
                return wood.looks[hut];
            case 1:
                return wood.legs[hut];
            case 2:
                return wood.most[hut];
            case 3:
                return wood.kinds[hut];
            case 4:
                return wood.cells[hut];
            default:
                return OUTSIDE;
        }
    }

    private int toldOfWord(int word, int hut) {
        if (!wood.knows(word) || !wood.hasHut(hut)) {
            return OUTSIDE;
        }
        return wood.turns[word * MOST_HUTS + hut];
    }

    /** 0, or with what the EVENING on the PAD is refused. */
    private int playWhole() {
        if (pad.eveningFault(wood.huts) != NONE) {
            return NO;
        }
        evening.play(wood, pad);
        return evening.why == 0 ? 0 : STATE;
    }

    private boolean isTrackable() {
        return pad.eveningFault(wood.huts) == NONE && pad.hasOnlyWords(wood);
    }

    private boolean isAim(int set, int looks) {
        return wood.hasSet(set) && wood.hasLooks(looks);
    }

    private int fewestWords(int words, int set, int looks) {
        paths.explore(wood, words);
        int end = paths.firstLooking(set, looks);
        return end < 0 ? NONE : paths.depth[end];
    }

    private int votes(int looks, int way) {
        int votes = 0;
        for (int hut = 0; hut < wood.huts; hut++) {
            if (lookIn(looks, hut) == way) {
                votes++;
            }
        }
        return votes;
    }

    /** The number of LOOKS that a postman's digits ask for; -1: they are not as told. */
    private int looksOfSides(int set, int sides) {
        int looks = 0;
        int rest = sides;
        for (int hut = wood.huts - 1; hut >= 0; hut--) {
            if (isIn(set, hut)) {
                if (!isWithin(rest % 10, 0, 3)) {
                    return -1;
                }
                looks |= rest % 10 << 2 * hut;
                rest /= 10;
            }
        }
        return rest == 0 ? looks : -1;
    }

    private static int mostOf(int what) {
        switch (what) {
            case 1:
                return MOST_LEGS;
            case 3:
                return SIDE * SIDE - 1;
            default:
                return 3;
        }
    }

    private static boolean isWithin(int v, int least, int most) {
        return v >= least && v <= most;
    }

    private static boolean isIn(int set, int member) {
        return (set >> member & 1) != 0;
    }

    private static int lookIn(int looks, int hut) {
        return looks >> 2 * hut & 3;
    }

    private static int numberOf(int[] looks, int huts) {
        int number = 0;
        for (int hut = 0; hut < huts && hut < looks.length; hut++) {
            number |= looks[hut] << 2 * hut;
        }
        return number;
    }

    /** Those bits of a number of LOOKS that tell of a set of HUTS. */
    private static int maskOf(int set) {
        int mask = 0;
        for (int hut = 0; hut < MOST_HUTS; hut++) {
            if (isIn(set, hut)) {
                mask |= 3 << 2 * hut;
            }
        }
        return mask;
    }

    /** In how many of 10 to the m cases a HUT is turned by so many quarters. */
    private static long stormUpper(int quarters, int c, int m) {
        long even = 1;
        long odd = 0;
        for (int i = 0; i < m; i++) {
            long wasEven = even;
            even = even * (10 - c) + odd * c;
            odd = odd * (10 - c) + wasEven * c;
        }
        if (quarters == 0) {
            return even;
        }
        return quarters == 2 ? odd : 0;
    }

    private static long commonDivisor(long a, long b) {
        long one = a;
        long two = b;
        for (int i = 0; i < 200 && two != 0; i++) {
            long rest = one % two;
            one = two;
            two = rest;
        }
        return one;
    }

    private static int wayOf(int sign) {
        switch (sign) {
            case 'n':
                return 0;
            case 'e':
                return 1;
            case 's':
                return 2;
            case 'w':
                return 3;
            default:
                return -1;
        }
    }

    private static boolean isDigit(int sign) {
        return isWithin(sign, '0', '9');
    }

    private static boolean isLetter(int sign) {
        return isWithin(sign, 'a', 'f');
    }

    /** All that an IMAGE keeps: HUTS, WORDS, SIGHTS. */
    private static final class Wood {
        int huts;
        int known;
        int sights;
        final int[] looks = new int[MOST_HUTS];
        final int[] legs = new int[MOST_HUTS];
        final int[] most = new int[MOST_HUTS];
        final int[] kinds = new int[MOST_HUTS];
        final int[] cells = new int[MOST_HUTS];
        final int[] turns = new int[MOST_WORDS * MOST_HUTS];
        final int[] sightHuts = new int[MOST_SIGHTS];
        final int[] sightEvents = new int[MOST_SIGHTS];
        final int[] sightWays = new int[MOST_SIGHTS];

        Wood() {
            plant(3);
        }

        void plant(int n) {
            huts = n;
            known = 0;
            sights = 0;
            Arrays.fill(looks, 0);
            Arrays.fill(legs, 9);
            Arrays.fill(most, 9);
            Arrays.fill(kinds, 0);
            for (int hut = 0; hut < MOST_HUTS; hut++) {
                cells[hut] = hut;
            }
        }

        void copyFrom(Wood other) {
            huts = other.huts;
            known = other.known;
            sights = other.sights;
            System.arraycopy(other.looks, 0, looks, 0, MOST_HUTS);
            System.arraycopy(other.legs, 0, legs, 0, MOST_HUTS);
            System.arraycopy(other.most, 0, most, 0, MOST_HUTS);
            System.arraycopy(other.kinds, 0, kinds, 0, MOST_HUTS);
            System.arraycopy(other.cells, 0, cells, 0, MOST_HUTS);
            System.arraycopy(other.turns, 0, turns, 0, MOST_WORDS * MOST_HUTS);
            System.arraycopy(other.sightHuts, 0, sightHuts, 0, MOST_SIGHTS);
            System.arraycopy(other.sightEvents, 0, sightEvents, 0, MOST_SIGHTS);
            System.arraycopy(other.sightWays, 0, sightWays, 0, MOST_SIGHTS);
        }

        boolean hasHut(int hut) {
            return isWithin(hut, 0, huts - 1);
        }

        boolean hasSet(int set) {
            return isWithin(set, 0, (1 << huts) - 1);
        }

        boolean hasLooks(int number) {
            return isWithin(number, 0, (1 << 2 * huts) - 1);
        }

        boolean knows(int word) {
            return isWithin(word, 0, MOST_WORDS - 1) && isIn(known, word);
        }

        boolean knowsAll(int words) {
            return words != 0 && (words & ~known) == 0;
        }

        boolean isTaken(int cell, int but) {
            for (int hut = 0; hut < huts; hut++) {
                if (hut != but && cells[hut] == cell) {
                    return true;
                }
            }
            return false;
        }

        int alter(int hut, int what, int v) {
            if (what == 1) {
                legs[hut] = v;
            }
            int[] row = rowOf(what);
            int was = row[hut];
            row[hut] = v;
            return was;
        }

        private int[] rowOf(int what) {
            switch (what) {
                case 0:
                    return looks;
                case 1:
                    return most;
                case 2:
                    return kinds;
                default:
                    return cells;
            }
        }

        int addSight(int hut, int events, int way) {
            if (sights >= MOST_SIGHTS) {
                return FULL;
            }
            sightHuts[sights] = hut;
            sightEvents[sights] = events;
            sightWays[sights] = way;
            sights++;
            return sights;
        }

        int number() {
            return numberOf(looks, huts);
        }

        /** How many quarters a HUT should turn by a WORD, if it LOOKS so; LEGS not being looked at. */
        int quarters(int word, int hut, int look) {
            int kind = kinds[hut];
            if (kind == DEAF || kind == ODD && (look & 1) == 0) {
                return 0;
            }
            return turns[word * MOST_HUTS + hut];
        }

        int turned(int hut, int look, int quarters) {
            return (kinds[hut] == CONTRARY ? look - quarters : look + quarters) & 3;
        }
    }

    /** The signs that have been said, and where they can not stand. */
    private static final class Pad {
        int count;
        final int[] signs = new int[MOST_SIGNS];

        int add(int sign) {
            if (count >= MOST_SIGNS) {
                return FULL;
            }
            signs[count] = sign;
            count++;
            return count;
        }

        int clear() {
            int was = count;
            count = 0;
            return was;
        }

        /** 0, which is no sign, where there is none. */
        int signAt(int at) {
            return isWithin(at, 0, count - 1) ? signs[at] : 0;
        }

        int spellFault(int huts) {
            for (int at = 0; at < count; at++) {
                if (at >= huts || !isWithin(signs[at], '0', '3')) {
                    return at;
                }
            }
            return count < huts ? count : NONE;
        }

        int eveningFault(int huts) {
            boolean knocked = false;
            for (int at = 0; at < count; at++) {
                int sign = signs[at];
                if (knocked) {
                    if (wayOf(sign) < 0) {
                        return at;
                    }
                    knocked = false;
                } else if (isDigit(sign)) {
                    if (sign - '0' >= huts) {
                        return at;
                    }
                    knocked = true;
                } else if (!isLetter(sign) && sign != '*' && sign != '.') {
                    return at;
                }
            }
            return knocked ? count : NONE;
        }

        /** Whether all WORDS of an EVENING without a FAULT are known. */
        boolean hasOnlyWords(Wood wood) {
            for (int at = 0; at < count; at++) {
                if (isDigit(signs[at])) {
                    at++;
                } else if (isLetter(signs[at]) && !wood.knows(signs[at] - 'a')) {
                    return false;
                }
            }
            return true;
        }
    }

    /** An evening played on a copy of how the HUTS are; the WOOD changes only by leaveTo. */
    private static final class Evening {
        int quarters;
        int sat;
        int letIn;
        int events;
        int why;
        final int[] looks = new int[MOST_HUTS];
        final int[] legs = new int[MOST_HUTS];

        private void begin(Wood wood) {
            quarters = 0;
            sat = 0;
            letIn = 0;
            events = 0;
            why = 0;
            System.arraycopy(wood.looks, 0, looks, 0, MOST_HUTS);
            System.arraycopy(wood.legs, 0, legs, 0, MOST_HUTS);
        }

        /** Up to the first EVENT that can not be: events is its place then, why its reason. */
        void play(Wood wood, Pad pad) {
            begin(wood);
            for (int at = 0; at < pad.count; at++) {
                int sign = pad.signs[at];
                if (isDigit(sign)) {
                    at++;
                    why = knock(wood, sign - '0', wayOf(pad.signAt(at)));
                } else {
                    why = happen(wood, sign);
                }
                if (why != 0) {
                    return;
                }
                events++;
            }
        }

        void playDraws(Wood wood, int seed, int m) {
            begin(wood);
            int x = seed;
            for (int day = 1; day <= m; day++) {
                x = (75 * x + 74) % 65537;
                if (wood.knows(x % 6)) {
                    hear(wood, x % 6);
                }
                if (x / 6 % 10 == 0) {
                    thunder(wood);
                }
                if (day % 5 == 0) {
                    rest(wood);
                }
            }
        }

        void leaveTo(Wood wood) {
            System.arraycopy(looks, 0, wood.looks, 0, MOST_HUTS);
            System.arraycopy(legs, 0, wood.legs, 0, MOST_HUTS);
        }

        private int knock(Wood wood, int hut, int way) {
            if (!wood.hasHut(hut) || looks[hut] != way) {
                return 2;
            }
            letIn++;
            return 0;
        }

        private int happen(Wood wood, int sign) {
            if (sign == '*') {
                thunder(wood);
            } else if (sign == '.') {
                rest(wood);
            } else if (wood.knows(sign - 'a')) {
                hear(wood, sign - 'a');
            } else {
                return 1;
            }
            return 0;
        }

        private void hear(Wood wood, int word) {
            for (int hut = 0; hut < wood.huts; hut++) {
                int turn = wood.quarters(word, hut, looks[hut]);
                if (turn > legs[hut]) {
                    sat++;
                } else {
                    looks[hut] = wood.turned(hut, looks[hut], turn);
                    legs[hut] -= turn;
                    quarters += turn;
                }
            }
        }

        private void thunder(Wood wood) {
            for (int hut = 0; hut < wood.huts; hut++) {
                looks[hut] = looks[hut] + 2 & 3;
            }
        }

        private void rest(Wood wood) {
            System.arraycopy(wood.most, 0, legs, 0, MOST_HUTS);
        }
    }

    /** Where each WORD leads from each number of LOOKS, and by how many quarters; LEGS not being looked at. */
    private static final class Steps {
        // a whole table of 1024 numbers would be dear, so the first three HUTS and the rest have one each
        private final int[] near = new int[MOST_WORDS * NEAR];
        private final int[] far = new int[MOST_WORDS * FAR];

        void tabulate(Wood wood, int words) {
            for (int word = 0; word < MOST_WORDS; word++) {
                if (isIn(words, word)) {
                    fill(near, word * NEAR, wood, word, 0);
                    fill(far, word * FAR, wood, word, NEAR_HUTS);
                }
            }
        }

        int looksBehind(int word, int looks) {
            return step(word, looks) & MOST_LOOKS - 1;
        }

        int quartersOf(int word, int looks) {
            return step(word, looks) / MOST_LOOKS;
        }

        /** Where it leads, and 1024 times its quarters: so both add up over HUTS. */
        private int step(int word, int looks) {
            return near[word * NEAR + looks % NEAR] + far[word * FAR + looks / NEAR];
        }

        private static void fill(int[] table, int row, Wood wood, int word, int firstHut) {
            int end = Math.min(wood.huts, firstHut == 0 ? NEAR_HUTS : MOST_HUTS);
            int size = 1;
            table[row] = 0;
            for (int hut = firstHut; hut < end; hut++) {
                // from the highest LOOK down, since LOOK 0 overwrites what the others are made from
                for (int look = 3; look >= 0; look--) {
                    int turn = wood.quarters(word, hut, look);
                    int more = (wood.turned(hut, look, turn) << 2 * hut) + turn * MOST_LOOKS;
                    for (int i = 0; i < size; i++) {
                        table[row + look * size + i] = table[row + i] + more;
                    }
                }
                size *= 4;
            }
        }
    }

    /** What WORDS reach from now on, LEGS not being looked at; all by numbers of LOOKS. */
    private static final class Paths {
        int found;
        final Steps steps = new Steps();
        // as found: by number of WORDS, then by the first row of WORDS
        final int[] order = new int[MOST_LOOKS];
        final int[] depth = new int[MOST_LOOKS];
        // the last WORD, and 8 times the number of LOOKS ahead of it
        private final int[] last = new int[MOST_LOOKS];

        void explore(Wood wood, int words) {
            steps.tabulate(wood, words);
            Arrays.fill(depth, -1);
            order[0] = wood.number();
            depth[order[0]] = 0;
            found = 1;
            for (int i = 0; i < found && i < MOST_LOOKS; i++) {
                for (int word = 0; word < MOST_WORDS; word++) {
                    if (isIn(words, word)) {
                        reach(order[i], word);
                    }
                }
            }
        }

        private void reach(int here, int word) {
            int there = steps.looksBehind(word, here);
            if (depth[there] < 0 && found < MOST_LOOKS) {
                depth[there] = depth[here] + 1;
                last[there] = 8 * here + word;
                order[found] = there;
                found++;
            }
        }

        /** The first found number in which all of a set LOOK as told; -1: there is none. */
        int firstLooking(int set, int looks) {
            int mask = maskOf(set);
            for (int i = 0; i < found; i++) {
                if (((order[i] ^ looks) & mask) == 0) {
                    return order[i];
                }
            }
            return -1;
        }

        /** The i-th WORD of the row that leads to a number which was found; NONE: the row has no such WORD. */
        int wordOfRow(int end, int i) {
            if (i < 0 || i >= depth[end]) {
                return NONE;
            }
            int at = end;
            for (int left = depth[end] - 1; left > i; left--) {
                at = last[at] / 8;
            }
            return last[at] % 8;
        }

        /** By costs from 0 on, with depth as the quarters that lead to a number. */
        int leastQuarters(Wood wood, int set, int looks) {
            steps.tabulate(wood, wood.known);
            int all = 1 << 2 * wood.huts;
            int mask = maskOf(set);
            int dearest = 0;
            Arrays.fill(depth, -1);
            depth[wood.number()] = 0;
            for (int cost = 0; cost <= dearest && cost <= MOST_QUARTERS; cost++) {
                for (int here = 0; here < all; here++) {
                    if (depth[here] == cost) {
                        if (((here ^ looks) & mask) == 0) {
                            return cost;
                        }
                        dearest = Math.max(dearest, cheapen(wood.known, here));
                    }
                }
            }
            return NONE;
        }

        /** Tells the highest cost that it wrote: so far the search must go. */
        private int cheapen(int words, int here) {
            int dearest = 0;
            for (int word = 0; word < MOST_WORDS; word++) {
                if (isIn(words, word)) {
                    int there = steps.looksBehind(word, here);
                    int cost = depth[here] + steps.quartersOf(word, here);
                    if (depth[there] < 0 || cost < depth[there]) {
                        depth[there] = cost;
                        dearest = Math.max(dearest, cost);
                    }
                }
            }
            return dearest;
        }
    }

    /** Rows of WORDS said with LEGS being looked at, each row one longer than those ahead of it. */
    private static final class Legwork {
        private int set;
        private int aim;
        // row d is how the HUTS are behind d WORDS
        private final int[][] looks = new int[MOST_ROW + 1][MOST_HUTS];
        private final int[][] legs = new int[MOST_ROW + 1][MOST_HUTS];

        int fewestWords(Wood wood, int ofHuts, int number) {
            set = ofHuts;
            aim = number;
            System.arraycopy(wood.looks, 0, looks[0], 0, MOST_HUTS);
            System.arraycopy(wood.legs, 0, legs[0], 0, MOST_HUTS);
            if (((wood.number() ^ aim) & maskOf(set)) == 0) {
                return 0;
            }
            for (int length = 1; length <= MOST_ROW; length++) {
                if (isMet(this, wood, 0, length)) {
                    return length;
                }
            }
            return NONE;
        }

        private static boolean isMet(Legwork rows, Wood wood, int depth, int length) {
            if (depth >= length || depth >= MOST_ROW) {
                return true;
            }
            for (int word = 0; word < MOST_WORDS; word++) {
                if (wood.knows(word) && rows.hear(wood, word, depth, depth + 1 == length)
                        && isMet(rows, wood, depth + 1, length)) {
                    return true;
                }
            }
            return false;
        }

        /** HUTS outside the set are let be: none minds another. False: the last WORD left one astray. */
        private boolean hear(Wood wood, int word, int depth, boolean last) {
            for (int hut = 0; hut < wood.huts; hut++) {
                if (isIn(set, hut)) {
                    int look = looks[depth][hut];
                    int left = legs[depth][hut];
                    int turn = wood.quarters(word, hut, look);
                    if (turn > left) {
                        turn = 0;
                    }
                    look = wood.turned(hut, look, turn);
                    if (last && look != lookIn(aim, hut)) {
                        return false;
                    }
                    looks[depth + 1][hut] = look;
                    legs[depth + 1][hut] = left - turn;
                }
            }
            return true;
        }
    }

    /** For each number of LOOKS, as bits: which sets of HUTS may have their letters when they LOOK so. */
    private static final class Postman {
        private int set;
        private int aim;
        private final int[] now = new int[MOST_LOOKS];
        private final int[] next = new int[MOST_LOOKS];
        private final int[] been = new int[MOST_LOOKS];

        int fewestMinutes(Wood wood, Steps steps, int ofHuts, int looks) {
            set = ofHuts;
            aim = looks;
            int all = 1 << 2 * wood.huts;
            steps.tabulate(wood, wood.known);
            Arrays.fill(next, 0);
            Arrays.fill(been, 0);
            next[wood.number()] = 1;
            boolean fresh = knockAll(all);
            for (int words = 0; words <= MOST_LOOKS << MOST_HUTS && fresh; words++) {
                if (isServed(all)) {
                    return words + Integer.bitCount(set);
                }
                hear(steps, wood.known, all);
                fresh = knockAll(all);
            }
            return NONE;
        }

        private boolean isServed(int all) {
            for (int here = 0; here < all; here++) {
                if (isIn(now[here], set)) {
                    return true;
                }
            }
            return false;
        }

        private void hear(Steps steps, int words, int all) {
            Arrays.fill(next, 0);
            for (int here = 0; here < all; here++) {
                if (now[here] != 0) {
                    for (int word = 0; word < MOST_WORDS; word++) {
                        if (isIn(words, word)) {
                            next[steps.looksBehind(word, here)] |= now[here];
                        }
                    }
                }
            }
        }

        /** A knock that can be is never better put off, so all are made; false: nothing is new by them. */
        private boolean knockAll(int all) {
            boolean fresh = false;
            for (int here = 0; here < all; here++) {
                now[here] = 0;
                if (next[here] != 0) {
                    now[here] = withDoors(next[here], doorsAt(here)) & ~been[here];
                    been[here] |= now[here];
                    fresh |= now[here] != 0;
                }
            }
            return fresh;
        }

        private int doorsAt(int looks) {
            int doors = 0;
            for (int hut = 0; hut < MOST_HUTS; hut++) {
                if (isIn(set, hut) && lookIn(looks, hut) == lookIn(aim, hut)) {
                    doors |= 1 << hut;
                }
            }
            return doors;
        }

        private static int withDoors(int sets, int doors) {
            int more = 0;
            int left = sets;
            for (int i = 0; i < 1 << MOST_HUTS && left != 0; i++) {
                more |= 1 << (Integer.numberOfTrailingZeros(left) | doors);
                left &= left - 1;
            }
            return more;
        }
    }

    /** The game of TWO: places are a LOOK, and 4 more if the second is to speak. */
    private static final class Callers {
        final int[] who = new int[8];
        final int[] after = new int[8];

        void settle(Wood wood, int hut, int side, int other, int words, int otherWords) {
            for (int place = 0; place < 8; place++) {
                int look = place & 3;
                who[place] = look == side ? 0 : look == other ? 1 : 2;
                after[place] = 0;
            }
            // each round settles what is over behind so many WORDS; 8 places need no more than 8
            for (int rounds = 1; rounds <= 8; rounds++) {
                for (int place = 0; place < 8; place++) {
                    if (who[place] == 2) {
                        settlePlace(wood, hut, place < 4 ? words : otherWords, place, rounds);
                    }
                }
            }
        }

        private void settlePlace(Wood wood, int hut, int words, int place, int rounds) {
            int speaker = place / 4;
            int look = place & 3;
            boolean wins = false;
            boolean loses = true;
            for (int word = 0; word < MOST_WORDS; word++) {
                if (isIn(words, word)) {
                    int then = wood.turned(hut, look, wood.quarters(word, hut, look)) + 4 * (1 - speaker);
                    // a place settled in this same round counts only from the next on
                    boolean settled = who[then] != 2 && after[then] < rounds;
                    wins |= settled && who[then] == speaker;
                    loses &= settled && who[then] == 1 - speaker;
                }
            }
            if (wins || loses) {
                who[place] = wins ? speaker : 1 - speaker;
                after[place] = rounds;
            }
        }
    }

    /** Twos of HUTS that stand in line with none between, and the way from the first to the second. */
    private static final class Dance {
        private int lines;
        private final int[] first = new int[MOST_HUTS * MOST_HUTS];
        private final int[] second = new int[MOST_HUTS * MOST_HUTS];
        private final int[] ways = new int[MOST_HUTS * MOST_HUTS];

        void survey(Wood wood) {
            lines = 0;
            for (int hut = 0; hut < wood.huts; hut++) {
                for (int other = hut + 1; other < wood.huts; other++) {
                    int way = wayBetween(wood.cells[hut], wood.cells[other]);
                    if (way >= 0 && isFree(wood, hut, other, way)) {
                        first[lines] = hut;
                        second[lines] = other;
                        ways[lines] = way;
                        lines++;
                    }
                }
            }
        }

        int pairsIn(int looks) {
            int pairs = 0;
            for (int i = 0; i < lines; i++) {
                if (lookIn(looks, first[i]) == ways[i] && lookIn(looks, second[i]) == (ways[i] ^ 2)) {
                    pairs++;
                }
            }
            return pairs;
        }

        /** The way from a CELL to another in its row or column; -1: it is in neither. */
        private static int wayBetween(int cell, int other) {
            if (cell == other) {
                return -1;
            }
            if (cell / SIDE == other / SIDE) {
                return other > cell ? 1 : 3;
            }
            if (cell % SIDE == other % SIDE) {
                return other > cell ? 2 : 0;
            }
            return -1;
        }

        private static boolean isFree(Wood wood, int hut, int other, int way) {
            for (int between = 0; between < wood.huts; between++) {
                if (between != hut && between != other
                        && wayBetween(wood.cells[hut], wood.cells[between]) == way
                        && wayBetween(wood.cells[between], wood.cells[other]) == way) {
                    return false;
                }
            }
            return true;
        }
    }

    /** From which LOOKS all SIGHTS are so; no HUT minds another, so each is followed alone. */
    private static final class Trail {
        int many;
        int least;
        final int[] ways = new int[MOST_HUTS];

        void follow(Wood wood, Pad pad) {
            many = 1;
            least = 0;
            for (int hut = 0; hut < wood.huts; hut++) {
                ways[hut] = 0;
                for (int way = 0; way < 4; way++) {
                    if (fits(wood, pad, hut, way)) {
                        ways[hut] |= 1 << way;
                    }
                }
                many *= Integer.bitCount(ways[hut]);
                least |= (Integer.numberOfTrailingZeros(ways[hut]) & 3) << 2 * hut;
            }
            if (many == 0) {
                least = NONE;
            }
        }

        private static boolean fits(Wood wood, Pad pad, int hut, int way) {
            int look = way;
            int legs = wood.legs[hut];
            int events = 0;
            boolean so = isSo(wood, hut, events, look);
            for (int at = 0; at < pad.count && so; at++) {
                int sign = pad.signs[at];
                if (isDigit(sign)) {
                    at++;
                } else if (sign == '*') {
                    look = look + 2 & 3;
                } else if (sign == '.') {
                    legs = wood.most[hut];
                } else if (wood.knows(sign - 'a')) {
                    int turn = wood.quarters(sign - 'a', hut, look);
                    if (turn <= legs) {
                        look = wood.turned(hut, look, turn);
                        legs -= turn;
                    }
                }
                events++;
                so = isSo(wood, hut, events, look);
            }
            return so && !isSeenLater(wood, hut, events);
        }

        private static boolean isSo(Wood wood, int hut, int events, int look) {
            for (int i = 0; i < wood.sights; i++) {
                if (wood.sightHuts[i] == hut && wood.sightEvents[i] == events && wood.sightWays[i] != look) {
                    return false;
                }
            }
            return true;
        }

        private static boolean isSeenLater(Wood wood, int hut, int events) {
            for (int i = 0; i < wood.sights; i++) {
                if (wood.sightHuts[i] == hut && wood.sightEvents[i] > events) {
                    return true;
                }
            }
            return false;
        }
    }
}

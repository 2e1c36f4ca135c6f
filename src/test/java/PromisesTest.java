/** For each promise of the document: ordinary inputs, the edges that it names, wrong inputs. */
public final class PromisesTest {
    private static final int UNKNOWN = -1, OUTSIDE = -2, STATE = -3, FULL = -4, NO = -5, NONE = -6;
    private static final long GONE = -1000000000000000000L;
    private static final int LEAST = Integer.MIN_VALUE, MOST = Integer.MAX_VALUE;
    private static int wrong = 0;
    private static int asked = 0;

    private static void due(int promise, String call, long got, long want) {
        asked++;
        if (got != want) {
            wrong++;
            System.out.println("promise " + promise + ": " + call + " answered " + got + ", due is " + want);
        }
    }

    private static void write(HenHuts x, String text) {
        for (int i = 0; i < text.length(); i++) {
            x.say(text.charAt(i));
        }
    }

    /** Wipes the PAD and writes anew. */
    private static void pad(HenHuts x, String text) {
        x.wipe();
        write(x, text);
    }

    private static void learn(HenHuts x, int word, String spell) {
        pad(x, spell);
        due(7, "word " + word + " of " + spell, x.word(word) > 0 ? 1 : 0, 1);
    }

    /** So many HUTS, LOOKS told as a text of n, e, s, w. */
    private static HenHuts looking(String looks) {
        HenHuts x = new HenHuts();
        x.huts(looks.length());
        for (int i = 0; i < looks.length(); i++) {
            x.hut(i, 0, "nesw".indexOf(looks.charAt(i)));
        }
        return x;
    }

    private static void stand(HenHuts x, int... cells) {
        String aims = java.util.Arrays.toString(cells).replace('[', ' ').replace(']', ',');
        // first aside, so that no HUT is on a CELL that another one is to have
        for (int i = 0; i < cells.length; i++) {
            int aside = 0;
            while (aside < 25 && (aims.contains(" " + aside + ",") || x.hut(i, 3, aside) < 0)) {
                aside++;
            }
        }
        for (int i = 0; i < cells.length; i++) {
            due(3, "a free cell", x.hut(i, 3, cells[i]) >= 0 ? 1 : 0, 1);
        }
    }

    public static void main(String[] args) {
        newObject();
        hutsOfTheWood();
        oneHut();
        padAndFaults();
        spellsAndWords();
        judged();
        behindAndDone();
        stateAndBare();
        reachedAndCan();
        spelledRows();
        tiredLegs();
        ableLegs();
        withoutAWord();
        rounds();
        callers();
        dances();
        elections();
        sights();
        tracksOfEvenings();
        storms();
        ninetyEvenings();
        images();
        toldNumbers();
        constants();
        System.out.println(wrong == 0 ? asked + " answers are as promised" : wrong + " answers are not as promised");
        if (wrong != 0) {
            System.exit(1);
        }
    }

    private static void asAtFirst(int promise, HenHuts x, int n) {
        due(promise, "told(1)", x.told(1), n);
        due(promise, "told(2)", x.told(2), 0);
        due(promise, "told(3)", x.told(3), 0);
        due(promise, "told(4)", x.told(4), 0);
        for (int hut = 0; hut < n; hut++) {
            int at = 10 * (1 + hut);
            due(promise, "looks at first", x.told(at), 0);
            due(promise, "legs at first", x.told(at + 1), 9);
            due(promise, "legs at most at first", x.told(at + 2), 9);
            due(promise, "kind at first", x.told(at + 3), 0);
            due(promise, "cell at first", x.told(at + 4), hut);
        }
        due(promise, "no hut more", x.told(10 * (1 + n)), OUTSIDE);
    }

    private static void newObject() {
        HenHuts x = new HenHuts();
        asAtFirst(1, x, 3);
        due(1, "told(0)", x.told(0), 0);
        due(1, "restore(0)", x.restore(0), STATE);
        due(1, "restore(1)", x.restore(1), STATE);
        due(1, "unword(0)", x.unword(0), UNKNOWN);
    }

    private static void hutsOfTheWood() {
        HenHuts x = new HenHuts();
        learn(x, 2, "123");
        x.hut(0, 0, 2);
        x.hut(0, 1, 3);
        x.hut(1, 2, 2);
        x.hut(2, 3, 24);
        x.seen(0, 0, 0);
        x.image(1);
        write(x, "ab");
        for (int n : new int[] {0, 6, -1, LEAST, MOST}) {
            due(2, "huts(" + n + ")", x.huts(n), OUTSIDE);
        }
        due(2, "refused calls change nothing", x.told(2), 4);
        due(2, "huts(3)", x.huts(3), 3);
        asAtFirst(2, x, 3);
        due(2, "the PAD stays", x.told(0), 2);
        due(2, "huts(5)", x.huts(5), 3);
        asAtFirst(2, x, 5);
        due(2, "huts(1)", x.huts(1), 5);
        asAtFirst(2, x, 1);
        due(2, "images stay", x.restore(1), 1);
        due(2, "told(1)", x.told(1), 3);
    }

    private static void oneHut() {
        HenHuts x = new HenHuts();
        due(3, "hut(0, 0, 3)", x.hut(0, 0, 3), 0);
        due(3, "hut(0, 0, 2)", x.hut(0, 0, 2), 3);
        due(3, "told(10)", x.told(10), 2);
        due(3, "hut(1, 1, 30)", x.hut(1, 1, 30), 9);
        due(3, "told(21)", x.told(21), 30);
        due(3, "told(22)", x.told(22), 30);
        due(3, "hut(1, 1, 0)", x.hut(1, 1, 0), 30);
        due(3, "hut(2, 2, 3)", x.hut(2, 2, 3), 0);
        due(3, "hut(2, 2, 1)", x.hut(2, 2, 1), 3);
        due(3, "hut(2, 3, 24)", x.hut(2, 3, 24), 2);
        due(3, "hut(2, 3, 24), its own", x.hut(2, 3, 24), 24);
        due(3, "hut(0, 3, 2), left", x.hut(0, 3, 2), 0);
        due(3, "hut(0, 3, 24)", x.hut(0, 3, 24), STATE);
        due(3, "told(14)", x.told(14), 2);
        due(3, "hut(0, 3, 4), of no hut", x.hut(0, 3, 4), 2);
        int[] most = {3, 30, 3, 24};
        for (int what = 0; what < 4; what++) {
            due(3, "one too many", x.hut(0, what, most[what] + 1), OUTSIDE);
            due(3, "one too few", x.hut(0, what, -1), OUTSIDE);
            due(3, "far too many", x.hut(0, what, MOST), OUTSIDE);
            due(3, "far too few", x.hut(0, what, LEAST), OUTSIDE);
        }
        for (int what : new int[] {-1, 4, LEAST, MOST}) {
            due(3, "hut(0, " + what + ", 0)", x.hut(0, what, 0), OUTSIDE);
        }
        for (int hut : new int[] {-1, 3, LEAST, MOST}) {
            due(3, "hut(" + hut + ", 0, 0)", x.hut(hut, 0, 0), UNKNOWN);
            due(3, "UNKNOWN ahead of OUTSIDE", x.hut(hut, 9, 99), UNKNOWN);
        }
        x.huts(1);
        learn(x, 0, "2");
        pad(x, "a");
        x.done();
        due(3, "legs less", x.told(11), 7);
        due(3, "legs: which at most they were", x.hut(0, 1, 4), 9);
        due(3, "legs now", x.told(11), 4);
    }

    private static void padAndFaults() {
        HenHuts x = new HenHuts();
        due(4, "say(33)", x.say(33), 1);
        due(4, "say(126)", x.say(126), 2);
        for (int sign : new int[] {32, 127, 0, -1, LEAST, MOST}) {
            due(4, "say(" + sign + ")", x.say(sign), OUTSIDE);
        }
        for (int i = 3; i <= 60; i++) {
            due(4, "sign " + i, x.say('.'), i);
        }
        due(4, "the 61st sign", x.say('.'), FULL);
        due(4, "OUTSIDE ahead of FULL", x.say(32), OUTSIDE);
        due(4, "told(0)", x.told(0), 60);
        due(5, "wipe()", x.wipe(), 60);
        due(5, "wipe() again", x.wipe(), 0);
        due(5, "say('.')", x.say('.'), 1);
        for (int how : new int[] {-1, 2, LEAST, MOST}) {
            due(6, "fault(" + how + ")", x.fault(how), OUTSIDE);
        }
        fault(3, 0, "", 0);
        fault(3, 0, "01", 2);
        fault(3, 0, "013", NONE);
        fault(3, 0, "0130", 3);
        fault(3, 0, "014", 2);
        fault(3, 0, "a13", 0);
        fault(3, 0, "0/3", 1);
        fault(1, 0, "3", NONE);
        fault(1, 0, "30", 1);
        fault(5, 0, "3210", 4);
        fault(5, 0, "32101", NONE);
        fault(3, 1, "", NONE);
        fault(3, 1, "abcdef*.", NONE);
        fault(3, 1, "g", 0);
        fault(3, 1, "ag", 1);
        fault(3, 1, "0n1e2s0w", NONE);
        fault(3, 1, "3n", 0);
        fault(4, 1, "3n", NONE);
        fault(5, 1, "4w", NONE);
        fault(5, 1, "5w", 0);
        fault(1, 1, "0s1n", 2);
        fault(3, 1, "a0", 2);
        fault(3, 1, "a0a", 2);
        fault(3, 1, "0ee", NONE);
        fault(3, 1, "n", 0);
        fault(3, 1, "A", 0);
        fault(3, 1, "00n", 1);
    }

    private static void fault(int n, int how, String text, int want) {
        HenHuts x = new HenHuts();
        x.huts(n);
        write(x, text);
        due(6, "fault(" + how + ") of " + text + " by " + n, x.fault(how), want);
    }

    private static void spellsAndWords() {
        HenHuts x = new HenHuts();
        write(x, "012");
        for (int word : new int[] {-1, 6, LEAST, MOST}) {
            due(7, "word(" + word + ")", x.word(word), UNKNOWN);
        }
        due(7, "the PAD stays", x.told(0), 3);
        due(7, "word(5)", x.word(5), 1);
        due(7, "the PAD is empty", x.told(0), 0);
        due(7, "told(601)", x.told(601), 1);
        due(7, "told(602)", x.told(602), 2);
        due(7, "word(0) of nothing", x.word(0), NO);
        due(7, "UNKNOWN ahead of NO", x.word(6), UNKNOWN);
        write(x, "333");
        due(7, "otherwise", x.word(5), 1);
        due(7, "told(600)", x.told(600), 3);
        write(x, "333");
        due(7, "another", x.word(0), 2);
        due(7, "told(2)", x.told(2), 33);
        write(x, "3330");
        due(7, "too long", x.word(1), NO);
        due(8, "unword(1)", x.unword(1), UNKNOWN);
        due(8, "unword(5)", x.unword(5), 1);
        due(8, "unword(5) again", x.unword(5), UNKNOWN);
        due(8, "told(2)", x.told(2), 1);
        due(8, "told(600)", x.told(600), OUTSIDE);
        due(8, "the PAD stays", x.told(0), 4);
        for (int word : new int[] {-1, 6, 32, LEAST, MOST}) {
            due(8, "unword(" + word + ")", x.unword(word), UNKNOWN);
        }
        due(8, "unword(0)", x.unword(0), 0);
    }

    /** A plain, a deaf, a contrary, an odd HUT, all to the north. */
    private static HenHuts kinds() {
        HenHuts x = looking("nnnn");
        for (int hut = 0; hut < 4; hut++) {
            x.hut(hut, 2, hut);
        }
        learn(x, 0, "1111");
        learn(x, 1, "3333");
        return x;
    }

    private static void judged() {
        HenHuts x = kinds();
        pad(x, "a");
        due(9, "turns: neither the deaf nor the odd one", x.judge(2), 2);
        due(9, "nobody knocks", x.judge(3), 0);
        due(9, "all can be", x.judge(0), NONE);
        due(9, "so no reason", x.judge(1), NONE);
        pad(x, "a0e1n2w3n*0w1s2e3s");
        due(9, "judge(0)", x.judge(0), NONE);
        due(9, "let in", x.judge(3), 8);
        due(9, "THUNDER is no turn by WORDS", x.judge(2), 2);
        x.hut(3, 0, 1);
        pad(x, "ba3n");
        due(9, "the odd one turns east to north, then no more", x.judge(2), 3 + 3 + 3 + 1 + 1);
        pad(x, "ac0n");
        due(9, "the first that can not be", x.judge(0), 1);
        due(9, "its reason", x.judge(1), 1);
        due(9, "judge(2)", x.judge(2), STATE);
        due(9, "judge(3)", x.judge(3), STATE);
        pad(x, "0na0nc");
        due(9, "a knock at a wall", x.judge(0), 2);
        due(9, "its reason", x.judge(1), 2);
        pad(x, "0");
        for (int what = 0; what < 4; what++) {
            due(9, "a FAULT", x.judge(what), NO);
        }
        for (int what : new int[] {-1, 4, LEAST, MOST}) {
            due(9, "judge(" + what + ")", x.judge(what), OUTSIDE);
        }
        pad(x, "bbb");
        due(9, "three times three quarters", x.judge(2), 9 + 9 + 3);
        pad(x, "bbbbaaa");
        due(9, "then they sit", x.judge(2), 9 + 9 + 3);
        pad(x, "bbb.a0s");
        due(9, "a NIGHT gives LEGS again", x.judge(2), 9 + 9 + 3 + 1 + 1);
        x.hut(0, 1, 2);
        x.hut(2, 2, 1);
        x.hut(3, 2, 1);
        pad(x, "ba");
        due(9, "one that has not so many keeps them", x.judge(2), 1);
        due(9, "nothing is DONE", x.told(4), 64);
    }

    private static void behindAndDone() {
        HenHuts x = kinds();
        x.hut(3, 0, 3);
        pad(x, "ba");
        int[] looks = {0, 0, 0, 2};
        int[] legs = {5, 9, 5, 6};
        for (int hut = 0; hut < 4; hut++) {
            due(10, "looks of " + hut, x.behind(hut, 0), looks[hut]);
            due(10, "legs of " + hut, x.behind(hut, 1), legs[hut]);
        }
        due(10, "behind(4, 0)", x.behind(4, 0), UNKNOWN);
        due(10, "behind(-1, 9)", x.behind(-1, 9), UNKNOWN);
        due(10, "behind(0, 2)", x.behind(0, 2), OUTSIDE);
        due(10, "behind(0, -1)", x.behind(0, -1), OUTSIDE);
        pad(x, "b");
        due(10, "to the right", x.behind(0, 0), 3);
        due(10, "to the left", x.behind(2, 0), 1);
        pad(x, "bf");
        due(10, "a WORD that is not known", x.behind(0, 0), STATE);
        due(11, "a WORD that is not known", x.done(), STATE);
        pad(x, "0s");
        due(10, "a wall", x.behind(1, 1), STATE);
        due(11, "a wall", x.done(), STATE);
        pad(x, "b0");
        due(10, "a FAULT", x.behind(0, 0), NO);
        due(10, "OUTSIDE ahead of NO", x.behind(0, 2), OUTSIDE);
        due(11, "a FAULT", x.done(), NO);
        due(11, "the PAD stays", x.told(0), 2);
        due(11, "nothing is changed", x.told(4), 3 * 64);
        pad(x, "b0w*0e");
        due(11, "done()", x.done(), 4);
        due(11, "the PAD is empty", x.told(0), 0);
        due(11, "it is so", x.told(4), 1 + 4 * 2 + 16 * 3 + 64 * 0);
        due(11, "legs", x.told(11), 6);
        due(11, "legs at most", x.told(12), 9);
        due(11, "done() of nothing", x.done(), 0);
        pad(x, ".");
        due(11, "a NIGHT", x.done(), 1);
        due(11, "legs", x.told(11), 9);
    }

    private static void stateAndBare() {
        HenHuts x = kinds();
        x.hut(1, 0, 3);
        x.hut(1, 1, 7);
        due(12, "state(1, 0)", x.state(1, 0), 3);
        due(12, "state(1, 1)", x.state(1, 1), 7);
        due(12, "state(4, 0)", x.state(4, 0), UNKNOWN);
        due(12, "state(-1, 5)", x.state(-1, 5), UNKNOWN);
        due(12, "state(0, 2)", x.state(0, 2), OUTSIDE);
        due(12, "state(0, -1)", x.state(0, -1), OUTSIDE);
        learn(x, 2, "0123");
        due(13, "plain", x.bare(0, 0), 0);
        due(13, "by nothing", x.bare(2, 0), 1);
        due(13, "deaf", x.bare(0, 1), 1);
        due(13, "contrary", x.bare(0, 2), 0);
        due(13, "odd, to the north", x.bare(0, 3), 1);
        x.hut(3, 0, 2);
        due(13, "odd, to the south", x.bare(0, 3), 1);
        x.hut(3, 0, 3);
        due(13, "odd, to the west", x.bare(0, 3), 0);
        x.hut(3, 1, 2);
        due(13, "not so many legs", x.bare(2, 3), 1);
        due(13, "so many legs", x.bare(0, 3), 0);
        x.hut(3, 1, 3);
        due(13, "just so many legs", x.bare(2, 3), 0);
        for (int wild : new int[] {-1, 6, LEAST, MOST}) {
            due(13, "no such WORD", x.bare(wild, 0), UNKNOWN);
            due(13, "no such HUT", x.bare(0, wild), UNKNOWN);
        }
        due(13, "a WORD that is not known", x.bare(3, 0), UNKNOWN);
        due(13, "a HUT less", x.bare(0, 4), UNKNOWN);
    }

    private static void reachedAndCan() {
        HenHuts x = looking("nnnnn");
        due(14, "no WORD", x.reached(), 1);
        learn(x, 0, "10000");
        due(14, "one turns by one", x.reached(), 4);
        learn(x, 1, "02000");
        due(14, "one turns by two", x.reached(), 8);
        learn(x, 2, "00100");
        learn(x, 3, "00010");
        learn(x, 4, "00003");
        due(14, "five", x.reached(), 512);
        learn(x, 5, "01000");
        due(14, "all", x.reached(), 1024);
        due(15, "can(1023)", x.can(1023), 1);
        x.hut(4, 2, 1);
        due(14, "one is deaf", x.reached(), 256);
        due(15, "can(1023)", x.can(1023), 0);
        due(15, "can(255)", x.can(255), 1);
        x.hut(4, 2, 3);
        x.hut(4, 0, 1);
        due(14, "one is odd: east, then north", x.reached(), 512);
        due(15, "north", x.can(0), 1);
        due(15, "west", x.can(3 * 256), 0);
        for (int looks : new int[] {-1, 1024, LEAST, MOST}) {
            due(15, "can(" + looks + ")", x.can(looks), OUTSIDE);
        }
        x.hut(0, 1, 0);
        due(14, "LEGS are not looked at", x.reached(), 512);
        HenHuts y = looking("e");
        due(15, "that of now", y.can(1), 1);
        due(15, "another", y.can(0), 0);
        due(15, "can(4) of one HUT", y.can(4), OUTSIDE);
        due(14, "not DONE", y.told(4), 1);
    }

    private static void spelledRows() {
        HenHuts x = looking("nnn");
        learn(x, 4, "100");
        learn(x, 2, "200");
        learn(x, 1, "010");
        learn(x, 5, "100");
        due(16, "three quarters", x.spelled(1, 3, -1), 2);
        due(16, "the first row", x.spelled(1, 3, 0), 2);
        due(16, "the first row, on", x.spelled(1, 3, 1), 4);
        due(16, "no third WORD", x.spelled(1, 3, 2), NONE);
        due(16, "two HUTS", x.spelled(3, 3 + 8, -1), 4);
        int[] row = {1, 1, 2, 4};
        for (int i = 0; i < 4; i++) {
            due(16, "WORD " + i, x.spelled(3, 3 + 8, i), row[i]);
        }
        due(16, "others as they may", x.spelled(1, 1 + 16, -1), 1);
        due(16, "it can not be", x.spelled(4, 16, -1), NONE);
        due(16, "it can not be, WORD 0", x.spelled(4, 16, 0), NONE);
        due(16, "it is so", x.spelled(7, 0, -1), 0);
        due(16, "no WORD then", x.spelled(7, 0, 0), NONE);
        due(16, "no HUT", x.spelled(0, 63, -1), 0);
        x.hut(0, 1, 0);
        due(16, "LEGS are not looked at", x.spelled(1, 3, -1), 2);
        for (int set : new int[] {-1, 8, LEAST, MOST}) {
            due(16, "no such set", x.spelled(set, 0, -1), OUTSIDE);
        }
        for (int looks : new int[] {-1, 64, LEAST, MOST}) {
            due(16, "no such number", x.spelled(1, looks, -1), OUTSIDE);
        }
        for (int i : new int[] {-2, -3, LEAST, MOST}) {
            due(16, "no such WORD of the row", x.spelled(1, 3, i), NONE);
            due(16, "no such WORD of no row", x.spelled(7, 0, i), NONE);
            due(16, "no such WORD, it can not be", x.spelled(4, 16, i), NONE);
            due(16, "no such set, whatever i", x.spelled(8, 0, i), OUTSIDE);
            due(16, "no such number, whatever i", x.spelled(1, 64, i), OUTSIDE);
        }
        x.hut(0, 2, 2);
        due(16, "a contrary one", x.spelled(1, 3, -1), 1);
        due(16, "its WORD, of two", x.spelled(1, 3, 0), 4);
        HenHuts y = looking("nn");
        learn(y, 0, "12");
        learn(y, 1, "10");
        due(16, "the end is free, the row is the first", y.spelled(1, 1, 0), 0);
    }

    private static void tiredLegs() {
        HenHuts x = looking("nn");
        learn(x, 0, "33");
        learn(x, 1, "10");
        due(17, "three small ones, not a big one", x.tired(1, 3), 3);
        due(17, "SPELLED takes the big one", x.spelled(1, 3, -1), 1);
        due(17, "all HUTS count", x.tired(2, 12), 6);
        due(17, "both", x.tired(3, 15), 6);
        due(17, "both, unlike", x.tired(3, 12), 7);
        due(17, "it is so", x.tired(3, 0), 0);
        x.hut(1, 2, 1);
        due(17, "a deaf one never", x.tired(2, 12), NONE);
        due(17, "a deaf one takes none", x.tired(1, 3), 3);
        x.unword(1);
        due(17, "the big one", x.tired(1, 3), 3);
        x.hut(0, 1, 0);
        due(17, "LEGS are not looked at", x.tired(1, 3), 3);
        x.hut(0, 2, 2);
        due(17, "a contrary one takes as many", x.tired(1, 3), 9);
        due(17, "no such set", x.tired(4, 0), OUTSIDE);
        due(17, "no such number", x.tired(0, 16), OUTSIDE);
        due(17, "less", x.tired(-1, 0), OUTSIDE);
        due(17, "less", x.tired(0, -1), OUTSIDE);
    }

    private static void ableLegs() {
        HenHuts x = looking("nn");
        learn(x, 0, "11");
        learn(x, 1, "30");
        due(18, "three", x.able(1, 3), 1);
        x.hut(0, 1, 2);
        due(18, "two LEGS", x.able(1, 3), NONE);
        due(18, "two quarters", x.able(1, 2), 2);
        due(18, "it sits, the other goes on", x.able(3, 2 + 4 * 3), 3);
        x.hut(0, 1, 30);
        x.hut(1, 1, 30);
        learn(x, 1, "10");
        due(18, "five", x.able(3, 1 + 4 * 2), 5);
        learn(x, 1, "01");
        due(18, "two and three", x.able(3, 2 + 4), 5);
        due(18, "no HUT", x.able(0, 15), 0);
        due(18, "it is so", x.able(3, 0), 0);
        due(18, "no such set", x.able(4, 0), OUTSIDE);
        due(18, "no such number", x.able(0, 16), OUTSIDE);
        due(18, "less", x.able(-1, 0), OUTSIDE);
        due(18, "less", x.able(0, -1), OUTSIDE);
        HenHuts y = looking("nn");
        learn(y, 0, "11");
        learn(y, 1, "10");
        due(18, "five, SPELLED", y.spelled(3, 1 + 4 * 3, -1), 5);
        due(18, "five, ABLE", y.able(3, 1 + 4 * 3), 5);
        due(18, "six, SPELLED", y.spelled(3, 2 + 4 * 3, -1), 6);
        due(18, "six, ABLE", y.able(3, 2 + 4 * 3), NONE);
        pad(y, "aaaa");
        y.done();
        due(18, "LEGS as they are now", y.able(3, 1 + 4), 1);
        y.hut(0, 0, 0);
        y.hut(0, 1, 1);
        pad(y, "b");
        y.done();
        due(18, "none left, and no NIGHT", y.able(1, 2), NONE);
    }

    private static void withoutAWord() {
        HenHuts x = looking("nn");
        learn(x, 0, "10");
        learn(x, 1, "20");
        learn(x, 2, "01");
        due(19, "three for two", x.without(1, 1, 3), 1);
        due(19, "not then", x.without(0, 1, 3), NONE);
        due(19, "not needed", x.without(2, 1, 3), 0);
        due(19, "it is so", x.without(0, 3, 0), 0);
        x.hut(1, 2, 1);
        due(19, "not at all", x.without(0, 2, 4), NONE);
        for (int word : new int[] {3, -1, 6, LEAST, MOST}) {
            due(19, "not known", x.without(word, 1, 1), UNKNOWN);
            due(19, "UNKNOWN ahead of OUTSIDE", x.without(word, -1, -1), UNKNOWN);
        }
        due(19, "no such set", x.without(0, 4, 0), OUTSIDE);
        due(19, "no such number", x.without(0, 0, 16), OUTSIDE);
        due(19, "the WORD is still known", x.told(2), 7);
    }

    private static void rounds() {
        HenHuts x = looking("nes");
        due(20, "all at once", x.round(7, 12), 3);
        due(20, "the least HUT's is the highest", x.round(7, 210), NONE);
        learn(x, 0, "111");
        due(20, "on the way", x.round(7, 222), 1 + 1 + 1 + 2);
        due(20, "some", x.round(5, 3), 1 + 1 + 1);
        due(20, "a leading 0", x.round(5, 2), 2);
        due(20, "nobody", x.round(0, 0), 0);
        due(20, "a digit for nobody", x.round(0, 3), OUTSIDE);
        due(20, "a digit too many", x.round(7, 1000), OUTSIDE);
        due(20, "a digit too high", x.round(7, 140), OUTSIDE);
        due(20, "a digit too high, at the end", x.round(7, 4), OUTSIDE);
        for (int sides : new int[] {-1, -10, LEAST, MOST, 1111}) {
            due(20, "round(7, " + sides + ")", x.round(7, sides), OUTSIDE);
        }
        for (int set : new int[] {-1, 8, LEAST, MOST}) {
            due(20, "no such set", x.round(set, 0), OUTSIDE);
        }
        x.hut(0, 1, 0);
        x.hut(2, 2, 1);
        due(20, "LEGS are not looked at", x.round(1, 3), 4);
        due(20, "a deaf one", x.round(4, 3), NONE);
        HenHuts y = looking("ennnn");
        y.hut(0, 2, 3);
        learn(y, 0, "11111");
        learn(y, 1, "11000");
        due(20, "an odd one, knocked at first", y.round(3, 11), 3);
        due(20, "five HUTS", y.round(31, 10001), 6);
        due(20, "six digits", y.round(31, 100000), OUTSIDE);
        due(20, "not DONE", y.told(4), 1);
    }

    private static void two(HenHuts x, int[] a, int who, int words) {
        due(21, "who", x.two(a[0], a[1], a[2], a[3], a[4], 0), who);
        due(21, "behind how many WORDS", x.two(a[0], a[1], a[2], a[3], a[4], 1), words);
    }

    private static void callers() {
        HenHuts x = looking("nn");
        learn(x, 0, "11");
        learn(x, 1, "22");
        learn(x, 2, "30");
        two(x, new int[] {0, 0, 1, 1, 1}, 0, 0);
        two(x, new int[] {0, 1, 0, 1, 1}, 1, 0);
        two(x, new int[] {0, 1, 2, 1, 1}, 0, 1);
        two(x, new int[] {0, 2, 1, 1, 1}, 1, 1);
        two(x, new int[] {0, 2, 3, 1, 1}, 0, 2);
        two(x, new int[] {0, 3, 2, 1, 1}, 1, 2);
        two(x, new int[] {0, 1, 3, 2, 2}, 2, 0);
        // the first would have it soon, the second late
        two(x, new int[] {0, 3, 2, 5, 1}, 0, 1);
        two(x, new int[] {0, 2, 3, 5, 3}, 1, 2);
        two(x, new int[] {0, 2, 3, 1, 2}, 1, 2);
        two(x, new int[] {0, 3, 1, 1, 2}, 1, 1);
        // the first can put off what he can not keep away
        two(x, new int[] {0, 2, 1, 5, 2}, 1, 2);
        x.hut(0, 1, 0);
        two(x, new int[] {0, 2, 3, 1, 1}, 0, 2);
        x.hut(1, 2, 1);
        two(x, new int[] {1, 1, 2, 1, 1}, 2, 0);
        x.hut(1, 2, 2);
        two(x, new int[] {1, 3, 2, 1, 1}, 0, 1);
        x.hut(1, 2, 3);
        two(x, new int[] {1, 3, 2, 7, 7}, 2, 0);
        for (int hut : new int[] {2, -1, LEAST, MOST}) {
            due(21, "no such HUT", x.two(hut, 0, 1, 1, 1, 0), UNKNOWN);
            due(21, "UNKNOWN ahead of OUTSIDE", x.two(hut, 0, 0, 0, 0, 9), UNKNOWN);
        }
        for (int wild : new int[] {-1, 4, LEAST, MOST}) {
            due(21, "no such side", x.two(0, wild, 1, 1, 1, 0), OUTSIDE);
            due(21, "no such other side", x.two(0, 1, wild, 1, 1, 0), OUTSIDE);
            due(21, "no such what", x.two(0, 0, 1, 1, 1, wild), OUTSIDE);
        }
        due(21, "sides that are like", x.two(0, 1, 1, 1, 1, 0), OUTSIDE);
        for (int words : new int[] {0, 8, 9, 64, -1, LEAST, MOST}) {
            due(21, "no such WORDS", x.two(0, 0, 1, words, 1, 0), OUTSIDE);
            due(21, "no such other WORDS", x.two(0, 0, 1, 1, words, 0), OUTSIDE);
        }
        due(21, "what = 2", x.two(0, 0, 1, 1, 1, 2), OUTSIDE);
    }

    private static void dances() {
        HenHuts x = looking("esw");
        stand(x, 0, 1, 4);
        due(22, "one is between", x.pairs(), 0);
        x.hut(1, 3, 6);
        due(22, "it went", x.pairs(), 1);
        x.hut(0, 0, 3);
        due(22, "it looks away", x.pairs(), 0);
        due(23, "no WORD", x.danced(1), NONE);
        HenHuts y = looking("senw");
        stand(y, 2, 10, 22, 14);
        due(22, "a cross", y.pairs(), 2);
        due(23, "danced(2) now", y.danced(2), 0);
        y.hut(0, 0, 0);
        y.hut(2, 0, 2);
        due(22, "row, not column", y.pairs(), 1);
        learn(y, 0, "2020");
        due(23, "danced(1)", y.danced(1), 0);
        due(23, "danced(2)", y.danced(2), 1);
        learn(y, 0, "1010");
        y.hut(0, 1, 0);
        due(23, "LEGS are not looked at", y.danced(2), 2);
        learn(y, 0, "1111");
        due(23, "never two", y.danced(2), NONE);
        due(23, "one again", y.danced(1), 0);
        for (int many : new int[] {0, 3, -1, LEAST, MOST}) {
            due(23, "danced(" + many + ")", y.danced(many), OUTSIDE);
        }
        HenHuts z = looking("we");
        stand(z, 4, 5);
        due(22, "the row's end is not the next row", z.pairs(), 0);
        z = looking("en");
        stand(z, 4, 5);
        due(22, "nor so", z.pairs(), 0);
        z = looking("ew");
        stand(z, 4, 5);
        due(22, "nor so", z.pairs(), 0);
        z = looking("nnssn");
        stand(z, 24, 14, 4, 9, 19);
        due(22, "a column: neighbours alone", z.pairs(), 1);
        due(22, "one HUT", new HenHuts().pairs(), 0);
    }

    private static void elections() {
        due(24, "all", looking("sss").elected(), 2);
        due(24, "of several the least", looking("wwee").elected(), 1);
        due(24, "most", looking("wweew").elected(), 3);
        due(24, "each another", looking("wsen").elected(), 0);
        HenHuts x = looking("wwsn");
        due(25, "half is not more than half", x.majority(3), NONE);
        learn(x, 0, "0010");
        due(25, "one WORD", x.majority(3), 1);
        due(25, "not so", x.majority(1), NONE);
        learn(x, 1, "1111");
        due(25, "all turn", x.majority(0), 2);
        x.hut(0, 1, 0);
        due(25, "LEGS are not looked at", x.majority(0), 2);
        x.hut(2, 0, 3);
        due(25, "now", x.majority(3), 0);
        for (int way : new int[] {-1, 4, LEAST, MOST}) {
            due(25, "majority(" + way + ")", x.majority(way), OUTSIDE);
        }
        due(25, "two of three", looking("een").majority(1), 0);
    }

    private static void sights() {
        HenHuts x = new HenHuts();
        due(26, "seen(2, 30, 3)", x.seen(2, 30, 3), 1);
        for (int wild : new int[] {-1, 31, LEAST, MOST}) {
            due(26, "no such HUT", x.seen(wild, 0, 0), UNKNOWN);
            due(26, "no such number of EVENTS", x.seen(0, wild, 0), OUTSIDE);
            due(26, "no such way", x.seen(0, 0, wild), OUTSIDE);
        }
        due(26, "no such way", x.seen(0, 0, 4), OUTSIDE);
        due(26, "UNKNOWN ahead of OUTSIDE", x.seen(3, 31, 4), UNKNOWN);
        for (int i = 2; i <= 6; i++) {
            due(26, "one more", x.seen(0, 0, 0), i);
        }
        due(26, "a seventh", x.seen(0, 0, 0), FULL);
        due(26, "OUTSIDE ahead of FULL", x.seen(0, 31, 0), OUTSIDE);
        due(26, "told(3)", x.told(3), 6);
        due(27, "forget()", x.forget(), 6);
        due(27, "forget() again", x.forget(), 0);
        due(27, "told(3)", x.told(3), 0);
    }

    private static void tracksOfEvenings() {
        HenHuts x = looking("nn");
        due(28, "no SIGHT", x.tracks(0), 16);
        due(28, "the least", x.tracks(1), 0);
        due(29, "any", x.looked(1), 15);
        learn(x, 0, "13");
        x.hut(0, 1, 2);
        pad(x, "aaa*.a0n");
        x.seen(0, 2, 3);
        due(28, "behind two turns", x.tracks(0), 4);
        due(28, "the least", x.tracks(1), 1);
        due(29, "first", x.looked(0), 2);
        due(29, "another", x.looked(1), 15);
        x.seen(0, 3, 3);
        due(28, "it sat", x.tracks(0), 4);
        x.seen(0, 7, 2);
        due(28, "THUNDER, a NIGHT, a turn, a knock", x.tracks(0), 4);
        x.seen(1, 0, 2);
        due(28, "the other one", x.tracks(0), 1);
        due(28, "its number", x.tracks(1), 1 + 4 * 2);
        due(29, "its bit", x.looked(1), 4);
        x.image(0);
        x.seen(1, 1, 2);
        due(28, "none", x.tracks(0), 0);
        due(28, "no least", x.tracks(1), NONE);
        due(29, "no way of the other either", x.looked(0), 0);
        x.restore(0);
        x.seen(1, 8, 2);
        due(28, "there are not so many EVENTS", x.tracks(0), 0);
        x.forget();
        pad(x, "af");
        due(28, "a WORD that is not known", x.tracks(0), NO);
        due(29, "a WORD that is not known", x.looked(0), NO);
        pad(x, "0");
        due(28, "a FAULT", x.tracks(1), NO);
        due(29, "a FAULT", x.looked(1), NO);
        due(28, "OUTSIDE ahead of NO", x.tracks(2), OUTSIDE);
        due(28, "tracks(-1)", x.tracks(-1), OUTSIDE);
        due(29, "UNKNOWN ahead of NO", x.looked(2), UNKNOWN);
        due(29, "looked(-1)", x.looked(-1), UNKNOWN);
        HenHuts y = looking("e");
        y.hut(0, 2, 3);
        learn(y, 0, "1");
        pad(y, "0ea");
        y.seen(0, 2, 2);
        due(29, "an odd one: from east, or it was there; knocks are let be", y.looked(0), 6);
        due(28, "how many", y.tracks(0), 2);
    }

    private static void storms() {
        HenHuts x = looking("e");
        fraction(x, 1, 0, 15, 1, 1);
        fraction(x, 3, 0, 15, 0, 1);
        fraction(x, 1, 10, 15, 0, 1);
        fraction(x, 3, 10, 15, 1, 1);
        fraction(x, 1, 5, 15, 1, 2);
        fraction(x, 3, 5, 1, 1, 2);
        fraction(x, 1, 7, 0, 1, 1);
        fraction(x, 3, 7, 0, 0, 1);
        fraction(x, 0, 3, 4, 0, 1);
        fraction(x, 2, 3, 4, 0, 1);
        fraction(x, 3, 1, 1, 1, 10);
        fraction(x, 3, 1, 2, 9, 50);
        // (1 and 0.8 to the 15th) by 2: 5 to the 15th and 4 to the 15th, by 2 times 5 to the 15th
        fraction(x, 1, 1, 15, 30517578125L + 1073741824L, 2 * 30517578125L);
        x.hut(0, 1, 0);
        x.hut(0, 2, 1);
        fraction(x, 3, 10, 1, 1, 1);
        for (int hut : new int[] {1, -1, LEAST, MOST}) {
            due(30, "no such HUT", x.storm(hut, 9, 99, 99, 9), GONE + UNKNOWN);
        }
        for (int wild : new int[] {-1, 16, LEAST, MOST}) {
            due(30, "no such way", x.storm(0, wild, 1, 1, 0), GONE + OUTSIDE);
            due(30, "no such tenths", x.storm(0, 0, wild, 1, 0), GONE + OUTSIDE);
            due(30, "no such evenings", x.storm(0, 0, 1, wild, 0), GONE + OUTSIDE);
            due(30, "no such part", x.storm(0, 0, 1, 1, wild), GONE + OUTSIDE);
        }
        due(30, "way 4", x.storm(0, 4, 1, 1, 0), GONE + OUTSIDE);
        due(30, "11 tenths", x.storm(0, 0, 11, 1, 0), GONE + OUTSIDE);
        due(30, "part 2", x.storm(0, 0, 1, 1, 2), GONE + OUTSIDE);
    }

    private static void fraction(HenHuts x, int way, int c, int m, long upper, long lower) {
        due(30, "the upper of " + way + " " + c + " " + m, x.storm(0, way, c, m, 0), upper);
        due(30, "the lower of " + way + " " + c + " " + m, x.storm(0, way, c, m, 1), lower);
    }

    private static void ninetyEvenings() {
        HenHuts x = looking("n");
        // from 0: 74, 5624: by 6 these are 12 and 937, and 2 over; from 4373: 364: by 6 it is 60, and 4 over
        due(31, "no WORD, no THUNDER", x.ninety(0, 2, 1), 0);
        learn(x, 2, "1");
        due(31, "the third WORD, twice", x.ninety(0, 2, 0), 2);
        due(31, "the number of LOOKS", x.ninety(0, 2, 1), 2);
        x.hut(0, 1, 1);
        due(31, "it sat once", x.ninety(0, 2, 2), 1);
        due(31, "it turned once", x.ninety(0, 2, 0), 1);
        due(31, "nothing is DONE", x.told(4), 0);
        due(31, "nor are LEGS less", x.told(11), 1);
        long[] known = draws(123, 99, 1);
        learn(x, 2, "1");
        due(31, "turns by draws", x.ninety(123, 99, 0), known[0]);
        due(31, "LOOKS by draws", x.ninety(123, 99, 1), known[1]);
        due(31, "sat by draws", x.ninety(123, 99, 2), known[2]);
        due(31, "THUNDER", x.ninety(4373, 1, 1), 2);
        due(31, "THUNDER is no turn", x.ninety(4373, 1, 0), 0);
        learn(x, 4, "1");
        due(31, "a WORD, then THUNDER", x.ninety(4373, 1, 1), 3);
        x.hut(0, 2, 3);
        due(31, "an odd one to the north does not sit", x.ninety(4373, 1, 2), 0);
        x.hut(0, 0, 1);
        due(31, "an odd one heeds ahead of THUNDER", x.ninety(4373, 1, 1), 0);
        for (int wild : new int[] {-1, 10000, LEAST, MOST}) {
            due(31, "no such seed", x.ninety(wild, 1, 0), OUTSIDE);
            due(31, "no such number", x.ninety(0, wild, 0), OUTSIDE);
            due(31, "no such what", x.ninety(0, 1, wild), OUTSIDE);
        }
        due(31, "ninety(0, 0, 0)", x.ninety(0, 0, 0), OUTSIDE);
        due(31, "ninety(0, 100, 0)", x.ninety(0, 100, 0), OUTSIDE);
        due(31, "ninety(0, 1, 3)", x.ninety(0, 1, 3), OUTSIDE);
        due(31, "ninety(9999, 99, 2)", x.ninety(9999, 99, 2) >= 0 ? 1 : 0, 1);
    }

    /** One plain HUT to the north that turns by one by WORD 2 alone: turns, LOOKS, how often it sat. */
    private static long[] draws(int seed, int m, int most) {
        long x = seed;
        long[] told = new long[3];
        int legs = most;
        for (int i = 1; i <= m; i++) {
            x = (75 * x + 74) % 65537;
            if (x % 6 == 2 && legs > 0) {
                legs--;
                told[0]++;
                told[1] = (told[1] + 1) % 4;
            } else if (x % 6 == 2) {
                told[2]++;
            }
            if (x / 6 % 10 == 0) {
                told[1] = (told[1] + 2) % 4;
            }
            legs = i % 5 == 0 ? most : legs;
        }
        return told;
    }

    private static void images() {
        HenHuts x = new HenHuts();
        learn(x, 3, "321");
        x.hut(0, 0, 2);
        x.hut(1, 1, 5);
        x.hut(2, 2, 3);
        x.hut(0, 3, 20);
        x.seen(1, 2, 3);
        write(x, "d");
        x.done();
        write(x, "abc");
        due(32, "image(0)", x.image(0), 1);
        int[] was = numbers(x);
        x.huts(5);
        x.wipe();
        write(x, "d");
        due(33, "restore(1)", x.restore(1), STATE);
        due(32, "image(1)", x.image(1), 1);
        due(33, "restore(0)", x.restore(0), 1);
        int[] is = numbers(x);
        for (int i = 0; i < was.length; i++) {
            due(33, "number " + i, is[i], was[i]);
        }
        due(32, "all but the PAD", x.told(0), 1);
        due(33, "the SIGHT is kept too", x.looked(1), 0);
        x.hut(0, 0, 3);
        x.seen(0, 0, 0);
        due(33, "it is a copy: restore(0) again", x.restore(0), 1);
        due(33, "told(10)", x.told(10), was[4]);
        due(33, "told(3)", x.told(3), 1);
        due(33, "restore(1)", x.restore(1), 1);
        due(33, "told(1)", x.told(1), 5);
        due(32, "otherwise", x.image(0), 1);
        x.huts(2);
        x.restore(0);
        due(33, "as it was last kept", x.told(1), 5);
        for (int n : new int[] {-1, 2, LEAST, MOST}) {
            due(32, "image(" + n + ")", x.image(n), OUTSIDE);
            due(33, "restore(" + n + ")", x.restore(n), OUTSIDE);
        }
    }

    private static int[] numbers(HenHuts x) {
        int[] numbers = new int[4 + 5 * 3 + 3];
        for (int i = 0; i < 4; i++) {
            numbers[i] = x.told(1 + i);
        }
        for (int hut = 0; hut < 3; hut++) {
            for (int what = 0; what < 5; what++) {
                numbers[4 + 5 * hut + what] = x.told(10 * (1 + hut) + what);
            }
            numbers[19 + hut] = x.told(400 + hut);
        }
        return numbers;
    }

    private static void toldNumbers() {
        HenHuts x = looking("nesw");
        learn(x, 0, "1230");
        learn(x, 5, "0321");
        x.seen(0, 0, 0);
        x.hut(2, 1, 20);
        x.hut(2, 2, 2);
        x.hut(2, 3, 23);
        write(x, "a*");
        x.done();
        write(x, "xyz");
        int[][] due = {{0, 3}, {1, 4}, {2, 33}, {3, 1}, {4, 3 + 4 * 1 + 16 * 1 + 64 * 1}, {10, 3}, {11, 8}, {12, 9},
            {13, 0}, {14, 0}, {20, 1}, {21, 7}, {30, 1}, {31, 17}, {32, 20}, {33, 2}, {34, 23}, {40, 1}, {44, 3},
            {100, 1}, {101, 2}, {102, 3}, {103, 0}, {600, 0}, {601, 3}, {602, 2}, {603, 1}};
        for (int[] pair : due) {
            due(34, "told(" + pair[0] + ")", x.told(pair[0]), pair[1]);
        }
        for (int what : new int[] {-1, 5, 9, 15, 19, 25, 45, 50, 54, 60, 99, 104, 110, 200, 300, 599, 604, 700, 1000,
            -10, -100, LEAST, MOST}) {
            due(34, "told(" + what + ")", x.told(what), OUTSIDE);
        }
    }

    private static void constants() {
        due(1, "UNKNOWN", HenHuts.UNKNOWN, UNKNOWN);
        due(1, "OUTSIDE", HenHuts.OUTSIDE, OUTSIDE);
        due(1, "STATE", HenHuts.STATE, STATE);
        due(1, "FULL", HenHuts.FULL, FULL);
        due(1, "NO", HenHuts.NO, NO);
        due(1, "NONE", HenHuts.NONE, NONE);
        due(1, "GONE", HenHuts.GONE, GONE);
    }
}

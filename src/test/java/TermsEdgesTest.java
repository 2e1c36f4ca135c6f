/** Edges that "Terms" and "The public face" tell of all calls: refusals, their order, fractions, sets, 512 calls. */
public final class TermsEdgesTest extends Edges {
    private static final String FAULTY = "e0e*.0", WALL = "e0n*.", BOTH = "e0n*.0";

    public static void main(String[] args) throws IllegalAccessException {
        runAll(TermsEdgesTest.class);
    }

    private static HenHuts fullOfSights() {
        HenHuts x = busy();
        for (int i = 2; i < 6; i++) {
            x.seen(2, i, 0);
        }
        return x;
    }

    private static HenHuts fullPad() {
        return busy("............................................................");
    }

    // "UNKNOWN = -1, OUTSIDE = -2, STATE = -3, FULL = -4, NO = -5, NONE = -6; GONE = -1000000000000000000L"
    static void termsConstantsAreAsTold() {
        due("UNKNOWN", HenHuts.UNKNOWN, -1);
        due("OUTSIDE", HenHuts.OUTSIDE, -2);
        due("STATE", HenHuts.STATE, -3);
        due("FULL", HenHuts.FULL, -4);
        due("NO", HenHuts.NO, -5);
        due("NONE", HenHuts.NONE, -6);
        due("GONE", HenHuts.GONE, -1000000000000000000L);
    }

    // "the first of these that fits: UNKNOWN, OUTSIDE, .."
    static void termsUnknownIsAheadOfOutside() {
        refused("hut: no HUT, no what, no v", Edges::busy, x -> x.hut(4, 4, -1), UNKNOWN);
        refused("behind: no HUT, no what", Edges::busy, x -> x.behind(4, 2), UNKNOWN);
        refused("state: no HUT, no what", Edges::busy, x -> x.state(4, 2), UNKNOWN);
        refused("without: no WORD, no set, no number", Edges::busy, x -> x.without(1, 16, 256), UNKNOWN);
        refused("two: no HUT, like sides, no WORDS, no what", Edges::busy, x -> x.two(4, 1, 1, 0, 0, 2), UNKNOWN);
        refused("seen: no HUT, no EVENTS, no way", Edges::busy, x -> x.seen(4, 31, 4), UNKNOWN);
        refused("storm: no HUT, no way, c, m, part", Edges::busy, x -> x.storm(4, 4, 11, 16, 2), GONE - 1);
    }

    // "UNKNOWN, .. NO": a wrong number is told ahead of what is on the PAD
    static void termsUnknownIsAheadOfNo() {
        refused("word: no WORD, a FAULT", () -> busy(FAULTY), x -> x.word(6), UNKNOWN);
        refused("behind: no HUT, a FAULT", () -> busy(FAULTY), x -> x.behind(4, 0), UNKNOWN);
        refused("looked: no HUT, a FAULT", () -> busy(FAULTY), x -> x.looked(4), UNKNOWN);
        refused("looked: no HUT, no WORD b", () -> busy("b"), x -> x.looked(-1), UNKNOWN);
    }

    static void termsUnknownIsAheadOfState() {
        refused("behind: no HUT, a wall", () -> busy(WALL), x -> x.behind(4, 0), UNKNOWN);
        refused("hut: no HUT, a CELL that is taken", Edges::busy, x -> x.hut(4, 3, 24), UNKNOWN);
    }

    static void termsUnknownIsAheadOfFull() {
        refused("seen: no HUT, no place", TermsEdgesTest::fullOfSights, x -> x.seen(4, 0, 0), UNKNOWN);
    }

    static void termsOutsideIsAheadOfNo() {
        for (int what : new int[] {-1, 4}) {
            refused("judge: no what, a FAULT", () -> busy(FAULTY), x -> x.judge(what), OUTSIDE);
        }
        for (int what : new int[] {-1, 2}) {
            refused("behind: no what, a FAULT", () -> busy(FAULTY), x -> x.behind(0, what), OUTSIDE);
            refused("tracks: no what, a FAULT", () -> busy(FAULTY), x -> x.tracks(what), OUTSIDE);
            refused("tracks: no what, no WORD b", () -> busy("b"), x -> x.tracks(what), OUTSIDE);
        }
    }

    static void termsOutsideIsAheadOfState() {
        refused("judge: no what, a wall", () -> busy(WALL), x -> x.judge(4), OUTSIDE);
        refused("behind: no what, a wall", () -> busy(WALL), x -> x.behind(0, 2), OUTSIDE);
    }

    static void termsOutsideIsAheadOfFull() {
        refused("say: no sign, no place", TermsEdgesTest::fullPad, x -> x.say(32), OUTSIDE);
        refused("say: no sign, no place", TermsEdgesTest::fullPad, x -> x.say(127), OUTSIDE);
        refused("seen: no EVENTS, no place", TermsEdgesTest::fullOfSights, x -> x.seen(0, 31, 0), OUTSIDE);
        refused("seen: no way, no place", TermsEdgesTest::fullOfSights, x -> x.seen(0, 0, 4), OUTSIDE);
    }

    // a FAULT behind an EVENT that can not be is told first
    static void termsNoIsAheadOfState() {
        refused("judge(2)", () -> busy(BOTH), x -> x.judge(2), NO);
        refused("judge(3)", () -> busy(BOTH), x -> x.judge(3), NO);
        refused("behind(0, 0)", () -> busy(BOTH), x -> x.behind(0, 0), NO);
        refused("done()", () -> busy(BOTH), HenHuts::done, NO);
        refused("done()", () -> busy("b0"), HenHuts::done, NO);
    }

    // "They change nothing": the looks of this test would see it, if something was changed
    static void termsRefusedCallsChangeNothing() {
        refused("huts(6)", Edges::busy, x -> x.huts(6), OUTSIDE);
        refused("hut(0, 3, 24)", Edges::busy, x -> x.hut(0, 3, 24), STATE);
        refused("say(127)", Edges::busy, x -> x.say(127), OUTSIDE);
        refused("word(1)", Edges::busy, x -> x.word(1), NO);
        refused("done()", () -> busy(WALL), HenHuts::done, STATE);
        refused("seen(0, 0, 0)", TermsEdgesTest::fullOfSights, x -> x.seen(0, 0, 0), FULL);
        refused("image(2)", Edges::busy, x -> x.image(2), OUTSIDE);
        refused("restore(0)", Edges::busy, x -> x.restore(0), STATE);
    }

    // "Fractions are told in lowest terms by part: 0 the upper, 1 the lower number"
    static void termsFractionsAreInLowestTerms() {
        HenHuts x = looking("n");
        due("2 tenths, the upper", x.storm(0, 2, 2, 1, 0), 1);
        due("2 tenths, the lower", x.storm(0, 2, 2, 1, 1), 5);
        due("nothing, the upper", x.storm(0, 1, 2, 1, 0), 0);
        due("nothing, the lower", x.storm(0, 1, 2, 1, 1), 1);
        due("all, the upper", x.storm(0, 0, 0, 15, 0), 1);
        due("all, the lower", x.storm(0, 0, 0, 15, 1), 1);
    }

    // "refused with GONE and the refusal"
    static void termsFractionsAreRefusedWithGone() {
        refused("no HUT", Edges::busy, x -> x.storm(-1, 0, 0, 0, 0), -1000000000000000001L);
        refused("no part", Edges::busy, x -> x.storm(0, 0, 0, 0, 2), -1000000000000000002L);
    }

    // "Sets are bits": HUT k is the bit k
    static void termsSetsAreBits() {
        HenHuts x = spelling("nnnnn", "10000", "01000", "00100", "00010", "00001");
        for (int hut = 0; hut < 5; hut++) {
            due("the WORD by which HUT " + hut + " LOOKS east", x.spelled(1 << hut, number("eeeee"), 0), hut);
            due("one WORD is enough", x.spelled(1 << hut, number("eeeee"), -1), 1);
        }
        due("HUTS 0, 2 and 4", x.spelled(21, number("eeeee"), -1), 3);
        due("WORDS 1 and 4 of the first caller", x.two(4, 1, 2, 2 + 16, 1, 1), 1);
        due("WORD 1 of the first caller", x.two(4, 1, 2, 2, 1, 0), 2);
    }

    // "An object is used for at most 512 calls": the 512th one is still as promised
    static void termsTheLastOf512CallsHolds() {
        HenHuts x = new HenHuts();
        for (int call = 1; call <= 511; call++) {
            int signs = call % 2 == 1 ? x.say('a') : x.wipe();
            if (signs != 1) {
                due("call " + call, signs, 1);
            }
        }
        due("call 512", x.say('b'), 2);
    }

    // "no call may ever throw or fail to end, for any arguments in any state"
    static void termsNoCallThrowsWhateverItsNumbersAre() {
        int[] wild = {LEAST, LEAST + 1, -65536, -33, -2, -1, 0, 1, 5, 6, 7, 31, 32, 33, 63, 64, 1023, 1024, 1 << 16,
            MOST - 1, MOST};
        for (int a : wild) {
            for (int b : wild) {
                HenHuts x = busy();
                x.hut(0, a, b);
                x.hut(a, 0, b);
                x.behind(a, b);
                x.state(a, b);
                x.bare(a, b);
                x.spelled(a, b, a);
                x.spelled(1, 0, b);
                x.tired(a, b);
                x.able(a, b);
                x.without(0, a, b);
                x.without(a, b, 0);
                x.round(a, b);
                x.round(15, b);
                x.two(0, 0, 1, a, b, 0);
                x.two(a, b, 1, 1, 1, 0);
                x.two(0, a, b, 1, 1, 1);
                x.seen(0, a, b);
                x.seen(a, 0, b);
                x.storm(0, 0, a, b, 0);
                x.storm(0, a, b, 1, 0);
                x.ninety(a, b, 0);
                x.ninety(0, a, b);
                due("it still answers", x.told(1), 4);
            }
        }
    }
}

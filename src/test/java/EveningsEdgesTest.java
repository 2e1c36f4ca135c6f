/** Edges of part 2: EVENINGS that are JUDGED and DONE, HUTS now (promises 9 to 13). */
public final class EveningsEdgesTest extends Edges {
    private static final String DOTS = "............................................................";
    private static final String FAULTY = "e0e*.0", WALL = "e0n*.", NO_WORD = "eb*.";

    public static void main(String[] args) throws IllegalAccessException {
        runAll(EveningsEdgesTest.class);
    }

    /** The EVENT that can not be, and why. */
    private static void judged(HenHuts x, String evening, int event, int why) {
        pad(x, evening);
        due("the EVENT of " + evening, x.judge(0), event);
        due("why, of " + evening, x.judge(1), why);
        due("turns of " + evening, x.judge(2), STATE);
        due("let in, of " + evening, x.judge(3), STATE);
    }

    /** All EVENTS can be: so many turns, so many who are let in. */
    private static void judgedWell(HenHuts x, String evening, int turns, int letIn) {
        pad(x, evening);
        due("the EVENT of " + evening, x.judge(0), NONE);
        due("why, of " + evening, x.judge(1), NONE);
        due("turns of " + evening, x.judge(2), turns);
        due("let in, of " + evening, x.judge(3), letIn);
    }

    // ---- judge

    // "what = 0 .. 3"; "OUTSIDE"
    static void promise09WhatGoesFrom0To3() {
        judgedWell(busy(), "e0e*.", 4, 1);
        refusedAll("judge", HenHuts::judge, OUTSIDE, -1, 4, 5, LEAST, MOST);
        for (int what = 0; what < 4; what++) {
            int asked = what;
            changesNothing("judge(" + what + ")", Edges::busy, x -> x.judge(asked));
            changesNothing("judge(" + what + ")", () -> busy(WALL), x -> x.judge(asked));
        }
    }

    // "NO: there is a FAULT (1)"
    static void promise09FaultyEveningsAreRefused() {
        for (String text : new String[] {FAULTY, "g", "0", "0nx", "4n", "0123", "n"}) {
            for (int what = 0; what < 4; what++) {
                int asked = what;
                refused("judge(" + what + ") of " + text, () -> busy(text), x -> x.judge(asked), NO);
            }
        }
    }

    // "STATE (2, 3): some EVENT can not be"; what is 0 or 1 is answered then
    static void promise09EventsThatCanNotBe() {
        for (String text : new String[] {WALL, NO_WORD}) {
            refused("judge(2) of " + text, () -> busy(text), x -> x.judge(2), STATE);
            refused("judge(3) of " + text, () -> busy(text), x -> x.judge(3), STATE);
        }
        judged(busy(), WALL, 1, 2);
        judged(busy(), NO_WORD, 1, 1);
    }

    // nothing on the PAD: an EVENING without EVENTS; "NONE"
    static void promise09AnEveningOfNothing() {
        judgedWell(new HenHuts(), "", 0, 0);
        judgedWell(busy(), "", 0, 0);
        HenHuts x = spelling("n", "1");
        judgedWell(x, "a0e", 1, 1);
        judgedWell(x, "", 0, 0);
        judged(x, "0s", 0, 2);
        judgedWell(x, "", 0, 0);
        judged(x, "b", 0, 1);
        judgedWell(x, "", 0, 0);
    }

    // "the first EVENT (from 0 on) that can not be": a knock has two signs, and is one EVENT
    static void promise09EventsAreCountedFrom0On() {
        HenHuts x = spelling("n", "1");
        judged(x, "b", 0, 1);
        judged(x, "0s", 0, 2);
        judged(x, "0n0n0s", 2, 2);
        judged(x, "0na0e.*f", 5, 1);
        judged(x, "aa0s0n", 3, 2);
    }

    // all 60 places taken: the last EVENT that there can be
    static void promise09TheLastEventOfAFullPad() {
        judgedWell(one(0, "n", 9, "1"), DOTS, 0, 0);
        judged(one(0, "n", 9, "1"), DOTS.substring(1) + "b", 59, 1);
        judged(one(0, "n", 9, "1"), DOTS.substring(2) + "0s", 58, 2);
        judgedWell(one(0, "n", 9, "1"), DOTS.replace("..", "0n"), 0, 30);
        judged(one(0, "n", 9, "1"), DOTS.substring(2).replace("..", "0n") + "0e", 29, 2);
        judgedWell(one(0, "n", 30, "1"), DOTS.replace('.', 'a'), 30, 0);
        judgedWell(one(0, "n", 30, "1"), DOTS.replace("..", "a."), 30, 0);
        judgedWell(one(0, "n", 30, "1"), DOTS.replace("..", ".a"), 30, 0);
    }

    // "1 the WORD is not known": each of the six, if the other five are known
    static void promise09WhyIs1IfTheWordIsNotKnown() {
        for (int word = 0; word < 6; word++) {
            HenHuts x = spelling("n", "1", "1", "1", "1", "1", "1");
            judgedWell(x, "abcdef", 6, 0);
            x.unword(word);
            judged(x, "abcdef", word, 1);
        }
    }

    // "2 the HUT does not LOOK that way": each way, each side
    static void promise09WhyIs2IfTheHutDoesNotLookThatWay() {
        for (int look = 0; look < 4; look++) {
            for (int side = 0; side < 4; side++) {
                HenHuts x = looking("n" + WAYS.charAt(look) + "n");
                String knock = "1" + WAYS.charAt(side);
                if (look == side) {
                    judgedWell(x, knock, 0, 1);
                } else {
                    judged(x, knock, 0, 2);
                }
            }
        }
    }

    // "the first EVENT .., why": what comes behind it is not asked
    static void promise09TheFirstOfSeveral() {
        HenHuts x = spelling("n", "1");
        judged(x, "0sb", 0, 2);
        judged(x, "b0s", 0, 1);
        judged(x, "a0nb", 1, 2);
        judged(x, "ab0n", 1, 1);
    }

    // a knock is at the HUT as it LOOKS then
    static void promise09KnocksComeWhenTheyCome() {
        HenHuts x = spelling("nw", "13");
        judgedWell(x, "0n1wa0e1s*0w1n.0w1n", 4, 8);
        judged(x, "0n1wa0n", 3, 2);
        judged(x, "*0n", 1, 2);
        x.hut(0, 1, 0);
        judgedWell(x, "a0n1s", 3, 2);
    }

    // "how many turns (quarters, by WORDS) all take": not by THUNDER, not of those that sit or do not heed
    static void promise09TurnsAreQuartersByWords() {
        judgedWell(one(0, "n", 9, "3"), "aaa", 9, 0);
        judgedWell(one(0, "n", 9, "3"), "aaaa", 9, 0);
        judgedWell(one(0, "n", 8, "3"), "aaaa", 6, 0);
        judgedWell(one(0, "n", 0, "3"), "a", 0, 0);
        judgedWell(one(0, "n", 9, "0"), "aaa", 0, 0);
        judgedWell(one(1, "n", 9, "3"), "aaa", 0, 0);
        judgedWell(one(2, "n", 9, "3"), "aa", 6, 0);
        judgedWell(one(3, "n", 9, "3"), "aa", 0, 0);
        judgedWell(one(3, "w", 9, "3"), "aa", 3, 0);
        judgedWell(one(0, "n", 9, "3"), "***", 0, 0);
        judgedWell(one(0, "n", 3, "3"), "aa.aa.aa", 9, 0);
        judgedWell(spelling("nnnnn", "33333"), "a", 15, 0);
        judgedWell(spelling("nnnnn", "30201"), "aa", 12, 0);
    }

    // "how many are let in"
    static void promise09WhoAreLetIn() {
        HenHuts x = looking("neswn");
        judgedWell(x, "0n", 0, 1);
        judgedWell(x, "0n0n", 0, 2);
        judgedWell(x, "0n1e2s3w4n", 0, 5);
        judgedWell(x, "*.", 0, 0);
    }

    // ---- behind

    // "of a HUT which way it LOOKS (what = 0), LEGS (1)"; "UNKNOWN; OUTSIDE"
    static void promise10HutsAndWhat() {
        HenHuts x = busy();
        due("HUT 0 LOOKS", x.behind(0, 0), 3);
        due("HUT 3 LOOKS", x.behind(3, 0), 0);
        due("HUT 0's LEGS", x.behind(0, 1), 12);
        due("HUT 3's LEGS", x.behind(3, 1), 5);
        refusedAll("behind", (y, hut) -> y.behind(hut, 0), UNKNOWN, -1, 4, 5, LEAST, MOST);
        refusedAll("behind", (y, what) -> y.behind(0, what), OUTSIDE, -1, 2, LEAST, MOST);
        changesNothing("behind(0, 0)", Edges::busy, y -> y.behind(0, 0));
        changesNothing("behind(2, 1)", Edges::busy, y -> y.behind(2, 1));
    }

    // "NO, STATE, as of judge(2)"
    static void promise10NoAndStateAsOfJudge() {
        for (int what = 0; what < 2; what++) {
            int asked = what;
            refused("a FAULT", () -> busy(FAULTY), x -> x.behind(0, asked), NO);
            refused("a HUT that there is not", () -> busy("4n"), x -> x.behind(0, asked), NO);
            refused("a wall", () -> busy(WALL), x -> x.behind(0, asked), STATE);
            refused("no such WORD", () -> busy(NO_WORD), x -> x.behind(0, asked), STATE);
        }
    }

    // an EVENING of nothing: as it is now
    static void promise10BehindNothingItIsAsNow() {
        HenHuts x = busy("");
        int[] looks = {2, 2, 0, 2};
        int[] legs = {11, 0, 27, 4};
        for (int hut = 0; hut < 4; hut++) {
            due("LOOKS", x.behind(hut, 0), looks[hut]);
            due("LEGS", x.behind(hut, 1), legs[hut]);
        }
    }

    // ways come round behind many EVENTS, and LEGS come to 0
    static void promise10BehindAFullPad() {
        HenHuts x = one(0, "w", 30, "1");
        write(x, DOTS.replace('.', 'a'));
        due("30 quarters to the right of west", x.behind(0, 0), 1);
        due("no LEGS are left", x.behind(0, 1), 0);
        HenHuts y = one(2, "n", 30, "1");
        write(y, DOTS.replace('.', 'a'));
        due("30 quarters to the left of north", y.behind(0, 0), 2);
        due("no LEGS are left", y.behind(0, 1), 0);
        HenHuts z = one(0, "e", 1, "1");
        write(z, DOTS.replace("..", "a.").substring(1));
        due("29 quarters to the right of east", z.behind(0, 0), 2);
        due("all LEGS again", z.behind(0, 1), 1);
        pad(z, DOTS.substring(1).replace('.', '*'));
        due("59 times THUNDER", z.behind(0, 0), 3);
    }

    // ---- done

    // "(the PAD is empty then): EVENTS"
    static void promise11TellsHowManyEvents() {
        HenHuts x = spelling("n", "1");
        due("of nothing", x.done(), 0);
        write(x, DOTS);
        due("of sixty", x.done(), 60);
        due("the PAD is empty", x.told(0), 0);
        write(x, DOTS.replace("..", "0n"));
        due("of thirty knocks", x.done(), 30);
        write(x, "a");
        due("of one", x.done(), 1);
        due("again, of nothing", x.done(), 0);
        due("done once", x.state(0, 0), 1);
    }

    // "DONE: it is so then"
    static void promise11ItIsSoThen() {
        HenHuts x = busy();
        due("EVENTS", x.done(), 4);
        due("LOOKS", x.told(4), number("wnen"));
        int[] legs = {12, 0, 30, 5};
        for (int hut = 0; hut < 4; hut++) {
            due("LEGS now", x.told(10 * (1 + hut) + 1), legs[hut]);
            due("LEGS at most", x.told(10 * (1 + hut) + 2), legs[hut]);
            due("KIND", x.told(10 * (1 + hut) + 3), hut);
        }
        due("WORDS stay", x.told(2), 17);
        due("SIGHTS stay", x.told(3), 2);
        due("IMAGES stay", x.restore(0), STATE);
    }

    // all five HUTS, to the last
    static void promise11AllFiveHuts() {
        HenHuts x = spelling("neswn", "12312");
        happen(x, "a*");
        due("LOOKS", x.told(4), number("wewsn"));
        int[] legs = {8, 7, 6, 8, 7};
        for (int hut = 0; hut < 5; hut++) {
            due("LEGS now", x.told(10 * (1 + hut) + 1), legs[hut]);
            due("LEGS at most", x.told(10 * (1 + hut) + 2), 9);
        }
    }

    // "NO, STATE, likewise"
    static void promise11NoAndStateLikewise() {
        refused("a HUT that there is not", () -> busy("4n"), HenHuts::done, NO);
        refused("a FAULT", () -> busy(FAULTY), HenHuts::done, NO);
        refused("a wall", () -> busy(WALL), HenHuts::done, STATE);
        refused("a wall behind all", () -> busy("e*.0e"), HenHuts::done, STATE);
        refused("no such WORD", () -> busy(NO_WORD), HenHuts::done, STATE);
    }

    // ---- state

    static void promise12HutsAndWhat() {
        HenHuts x = busy();
        int[] looks = {2, 2, 0, 2};
        int[] legs = {11, 0, 27, 4};
        for (int hut = 0; hut < 4; hut++) {
            due("LOOKS", x.state(hut, 0), looks[hut]);
            due("LEGS", x.state(hut, 1), legs[hut]);
        }
        refusedAll("state", (y, hut) -> y.state(hut, 0), UNKNOWN, -1, 4, 5, LEAST, MOST);
        refusedAll("state", (y, what) -> y.state(0, what), OUTSIDE, -1, 2, LEAST, MOST);
        changesNothing("state(1, 0)", Edges::busy, y -> y.state(1, 0));
        HenHuts five = looking("nnnnw");
        due("the last of five", five.state(4, 0), 3);
        due("a sixth", five.state(5, 0), UNKNOWN);
        five.huts(1);
        due("the only one", five.state(0, 0), 0);
        due("a second", five.state(1, 0), UNKNOWN);
    }

    // ---- bare

    // "UNKNOWN": a WORD, a HUT
    static void promise13WordsAndHutsThatThereAreNot() {
        refusedAll("bare, the WORD", (x, word) -> x.bare(word, 0), UNKNOWN, 1, 2, 3, 5, -1, 6, 32, LEAST, MOST);
        refusedAll("bare, the HUT", (x, hut) -> x.bare(0, hut), UNKNOWN, -1, 4, 5, LEAST, MOST);
        refused("bare, both", Edges::busy, x -> x.bare(1, 4), UNKNOWN);
        changesNothing("bare(0, 0)", Edges::busy, x -> x.bare(0, 0));
        HenHuts x = spelling("nnnnn", "00001", "00001", "00001", "00001", "00001", "00010");
        due("the last WORD, the last HUT but one", x.bare(5, 3), 0);
        due("the last WORD, the last HUT", x.bare(5, 4), 1);
        due("the first WORD, the last HUT", x.bare(0, 4), 0);
    }

    // "if it would not turn it now": by its turn
    static void promise13ByItsTurn() {
        HenHuts x = spelling("nnnn", "0123");
        int[] bare = {1, 0, 0, 0};
        for (int hut = 0; hut < 4; hut++) {
            due("by " + hut, x.bare(0, hut), bare[hut]);
        }
    }

    // by its KIND, and by which way it LOOKS, if it is odd
    static void promise13ByItsKind() {
        int[][] bare = {{0, 0, 0, 0}, {1, 1, 1, 1}, {0, 0, 0, 0}, {1, 0, 1, 0}};
        for (int kind = 0; kind < 4; kind++) {
            for (int look = 0; look < 4; look++) {
                due("KIND " + kind + ", LOOKS " + look,
                    one(kind, WAYS.substring(look, look + 1), 9, "1").bare(0, 0), bare[kind][look]);
            }
        }
    }

    // by its LEGS now: one that has not so many sits
    static void promise13ByItsLegsNow() {
        for (int turn = 1; turn < 4; turn++) {
            String spell = "0123".substring(turn, turn + 1);
            due("none", one(0, "n", 0, spell).bare(0, 0), 1);
            due("one too few", one(0, "n", turn - 1, spell).bare(0, 0), 1);
            due("just enough", one(0, "n", turn, spell).bare(0, 0), 0);
        }
        HenHuts x = one(0, "n", 3, "2");
        due("three of three", x.bare(0, 0), 0);
        happen(x, "a");
        due("one of three", x.bare(0, 0), 1);
        happen(x, ".");
        due("three again", x.bare(0, 0), 0);
    }
}

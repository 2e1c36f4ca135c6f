/** Edges of the first half of part 4: TWO callers, DANCES, elections (promises 21 to 25). */
public final class CallersEdgesTest extends Edges {
    private static final int BY_ONE = 1, BY_TWO = 2, BY_THREE = 4, BY_NONE = 8;

    public static void main(String[] args) throws IllegalAccessException {
        runAll(CallersEdgesTest.class);
    }

    // ---- two

    /** A HUT to the north, or as told, with WORDS by one, two, three and no quarters; sides as letters. */
    private static void two(int kind, String look, String sides, int words, int otherWords, int who, int behind) {
        HenHuts x = one(kind, look, 9, "1", "2", "3", "0");
        int side = WAYS.indexOf(sides.charAt(0));
        int other = WAYS.indexOf(sides.charAt(1));
        String call = "two to the " + look + " from " + sides + " by " + words + ", " + otherWords;
        due(call + ", who", x.two(0, side, other, words, otherWords, 0), who);
        due(call + ", behind", x.two(0, side, other, words, otherWords, 1), behind);
    }

    private static void two(String sides, int words, int otherWords, int who, int behind) {
        two(0, "n", sides, words, otherWords, who, behind);
    }

    // "UNKNOWN: the HUT"
    static void promise21HutsThatThereAreNot() {
        refusedAll("two", (x, hut) -> x.two(hut, 0, 1, 1, 1, 0), UNKNOWN, -1, 4, 5, LEAST, MOST);
        HenHuts x = spelling("nnnne", "11111");
        due("the last of five", x.two(4, 1, 2, 1, 1, 0), 0);
        due("a sixth", x.two(5, 1, 2, 1, 1, 0), UNKNOWN);
    }

    // "OUTSIDE: sides 0 to 3, unlike"
    static void promise21SidesAreUnlike() {
        refusedAll("two, the side", (x, side) -> x.two(0, side, 1, 1, 1, 0), OUTSIDE, -1, 4, 1, LEAST, MOST);
        refusedAll("two, the other", (x, other) -> x.two(0, 1, other, 1, 1, 0), OUTSIDE, -1, 4, 1, LEAST, MOST);
        HenHuts x = spelling("n", "1");
        for (int side = 0; side < 4; side++) {
            for (int other = 0; other < 4; other++) {
                boolean taken = x.two(0, side, other, 1, 1, 0) != OUTSIDE;
                due("sides " + side + ", " + other, taken ? 1 : 0, side != other ? 1 : 0);
            }
        }
    }

    // "sets of WORDS that are known, not empty"
    static void promise21WordsAreKnownAndSome() {
        int[] wrong = {0, 2, 3, 15, 18, 32, 64, 65, -1, LEAST, LEAST + 1, MOST};
        refusedAll("two, WORDS", (x, words) -> x.two(0, 0, 1, words, 1, 0), OUTSIDE, wrong);
        refusedAll("two, other WORDS", (x, words) -> x.two(0, 0, 1, 1, words, 0), OUTSIDE, wrong);
        HenHuts x = busy();
        for (int words : new int[] {1, 16, 17}) {
            due("WORDS " + words, x.two(0, 2, 1, words, 1, 0), 0);
            due("other WORDS " + words, x.two(0, 2, 1, 1, words, 0), 0);
        }
        HenHuts all = spelling("n", "0", "0", "0", "0", "0", "1");
        due("all six", all.two(0, 1, 2, 63, 63, 0), 0);
        due("a seventh", all.two(0, 1, 2, 64, 63, 0), OUTSIDE);
        due("a seventh, too", all.two(0, 1, 2, 127, 63, 0), OUTSIDE);
    }

    // "who is let in (what = 0), behind how many WORDS (1)"
    static void promise21WhatIs0Or1() {
        refusedAll("two, what", (x, what) -> x.two(0, 0, 1, 1, 1, what), OUTSIDE, -1, 2, LEAST, MOST);
        changesNothing("two", Edges::busy, x -> x.two(0, 0, 1, 1, 17, 0));
        changesNothing("two", Edges::busy, x -> x.two(0, 0, 1, 17, 1, 1));
    }

    // "(.. if it does now: at once, nothing said)"
    static void promise21AtOnce() {
        two(0, "n", "ne", BY_ONE, BY_ONE, 0, 0);
        two(0, "n", "en", BY_ONE, BY_ONE, 1, 0);
        two(0, "w", "wn", BY_ONE, BY_ONE, 0, 0);
        two(0, "w", "nw", BY_ONE, BY_ONE, 1, 0);
        two(1, "s", "se", BY_ONE, BY_ONE, 0, 0);
    }

    // "by turns, each says one of his own WORDS": he must say one, and the first begins
    static void promise21ByTurns() {
        two("es", BY_ONE, BY_ONE, 0, 1);
        two("se", BY_ONE, BY_ONE, 1, 1);
        two("sw", BY_ONE, BY_ONE, 0, 2);
        two("ws", BY_ONE, BY_ONE, 1, 2);
        two("sw", BY_ONE, BY_NONE, 0, 3);
        two("ws", BY_ONE, BY_NONE, 1, 3);
        two("sw", BY_NONE, BY_ONE, 0, 4);
        two("ws", BY_NONE, BY_ONE, 1, 4);
        two("we", BY_TWO, BY_ONE, 0, 2);
        two("ew", BY_TWO, BY_ONE, 1, 2);
    }

    // ways come round: from west to north, and a contrary HUT from north to west
    static void promise21WaysComeRound() {
        two(0, "w", "ns", BY_ONE, BY_ONE, 0, 1);
        two(0, "w", "se", BY_ONE, BY_ONE, 1, 2);
        two(0, "s", "ew", BY_THREE, BY_TWO, 0, 1);
        two(2, "n", "we", BY_ONE, BY_ONE, 0, 1);
        two(2, "n", "es", BY_ONE, BY_ONE, 1, 2);
    }

    // "2 nobody, ever"; "0, if nobody"
    static void promise21NobodyEver() {
        two("ew", BY_NONE, BY_NONE, 2, 0);
        two("ew", BY_TWO, BY_TWO, 2, 0);
        two("sw", BY_ONE, BY_THREE, 2, 0);
        two(1, "n", "es", BY_ONE, BY_ONE, 2, 0);
        two(3, "n", "es", BY_ONE, BY_ONE, 2, 0);
        two(3, "e", "nw", BY_ONE, BY_ONE, 2, 0);
    }

    // "if both go as well as can be": nobody is better than the other one
    static void promise21NobodyIsBetterThanTheOther() {
        two("we", BY_ONE | BY_NONE, BY_NONE, 2, 0);
        two("ew", BY_NONE, BY_ONE | BY_NONE, 2, 0);
        two("sw", BY_ONE, BY_ONE | BY_THREE, 2, 0);
    }

    // "(who is let in would have it soon ..)"
    static void promise21WhoIsLetInWouldHaveItSoon() {
        two("sw", BY_ONE | BY_TWO, BY_ONE, 0, 1);
        two("ws", BY_ONE | BY_THREE, BY_ONE, 0, 1);
        two("ew", BY_ONE | BY_NONE, BY_ONE | BY_NONE, 0, 1);
        two("ws", BY_ONE | BY_NONE, BY_TWO, 0, 2);
        two("sw", BY_ONE | BY_NONE, BY_NONE, 0, 3);
        two("es", BY_NONE, BY_TWO | BY_NONE, 1, 2);
    }

    // "(.. the other one late ..)"
    static void promise21TheOtherOneWouldHaveItLate() {
        two("we", BY_ONE | BY_NONE, BY_ONE, 1, 2);
        two("sw", BY_ONE, BY_ONE | BY_NONE, 0, 3);
        two("ws", BY_NONE, BY_TWO, 1, 2);
    }

    // one WORD that lets the other in is not all of them
    static void promise21OneOfSeveralWordsIsSafe() {
        two("ew", BY_TWO | BY_THREE, BY_TWO, 2, 0);
        two("we", BY_ONE | BY_TWO, BY_TWO, 2, 0);
        two("sw", BY_ONE, BY_ONE | BY_TWO, 1, 2);
    }

    // what was asked ahead does not count
    static void promise21AskedAgainAndOtherwise() {
        HenHuts x = spelling("n", "1", "2");
        due("behind two", x.two(0, 2, 3, 1, 1, 1), 2);
        due("nobody", x.two(0, 1, 3, 2, 2, 0), 2);
        due("nobody, behind", x.two(0, 1, 3, 2, 2, 1), 0);
        due("behind two", x.two(0, 2, 3, 1, 1, 1), 2);
        due("at once", x.two(0, 0, 3, 1, 1, 0), 0);
        due("at once, behind", x.two(0, 0, 3, 1, 1, 1), 0);
        due("at once, the other", x.two(0, 2, 0, 1, 1, 0), 1);
        due("at once, the other, behind", x.two(0, 2, 0, 1, 1, 1), 0);
    }

    // each of the six WORDS may be one's own
    static void promise21TheFirstAndTheLastWord() {
        for (int word : new int[] {0, 5}) {
            HenHuts x = looking("n");
            learn(x, word, "1");
            due("who", x.two(0, 1, 2, 1 << word, 1 << word, 0), 0);
            due("behind", x.two(0, 1, 2, 1 << word, 1 << word, 1), 1);
            due("the other one's", x.two(0, 2, 3, 1 << word, 1 << word, 1), 2);
            x.unword(word);
            due("a WORD that is forgotten", x.two(0, 1, 2, 1 << word, 1 << word, 0), OUTSIDE);
        }
    }

    // KINDS as they are: an odd HUT goes on only from east and west; LEGS are not looked at
    static void promise21KindsAndLegs() {
        two(3, "e", "sn", BY_ONE, BY_ONE, 0, 1);
        two(3, "e", "ns", BY_ONE, BY_ONE, 1, 1);
        two(3, "w", "sn", BY_TWO, BY_ONE, 0, 2);
        HenHuts x = one(0, "n", 0, "1");
        due("no LEGS, who", x.two(0, 2, 3, 1, 1, 0), 0);
        due("no LEGS, behind", x.two(0, 2, 3, 1, 1, 1), 2);
        HenHuts y = spelling("nn", "12");
        due("each HUT by its own turn", y.two(1, 2, 1, 1, 1, 1), 1);
        due("each HUT by its own turn", y.two(0, 2, 3, 1, 1, 1), 2);
    }

    // ---- pairs

    private static HenHuts standing(String looks, int... cells) {
        HenHuts x = looking(looks);
        stand(x, cells);
        return x;
    }

    /** Of all sixteen ways that two HUTS may LOOK, those by which they face each other; null: by none. */
    private static void facing(int cell, int other, String looks) {
        for (int first = 0; first < 4; first++) {
            for (int second = 0; second < 4; second++) {
                HenHuts x = standing("" + WAYS.charAt(first) + WAYS.charAt(second), cell, other);
                boolean face = looks != null && number(looks) == first + 4 * second;
                due("on " + cell + ", " + other + " LOOKING " + first + ", " + second, x.pairs(), face ? 1 : 0);
            }
        }
    }

    // "one stands in the row .. of the other .., and each LOOKS at the other"
    static void promise22InARow() {
        facing(0, 1, "ew");
        facing(1, 0, "we");
        facing(0, 4, "ew");
        facing(20, 24, "ew");
        facing(24, 20, "we");
        facing(13, 11, "we");
    }

    // "or the column"
    static void promise22InAColumn() {
        facing(0, 5, "sn");
        facing(5, 0, "ns");
        facing(0, 20, "sn");
        facing(4, 24, "sn");
        facing(24, 4, "ns");
        facing(17, 7, "ns");
    }

    // neither: a row's end is not the next one's beginning, a square's end is not its beginning
    static void promise22NeitherInARowNorInAColumn() {
        facing(4, 5, null);
        facing(5, 4, null);
        facing(9, 10, null);
        facing(0, 6, null);
        facing(4, 8, null);
        facing(0, 24, null);
        facing(20, 4, null);
        facing(12, 16, null);
    }

    // "no HUT between"
    static void promise22NoHutIsBetween() {
        due("between in a row", standing("ewn", 0, 4, 2).pairs() + standing("ewn", 0, 4, 1).pairs()
            + standing("ewn", 0, 4, 3).pairs(), 0);
        due("beyond in a row", standing("ewn", 0, 2, 3).pairs(), 1);
        due("ahead in a row", standing("ewn", 1, 4, 0).pairs(), 1);
        due("between in a column", standing("nse", 22, 2, 7).pairs() + standing("nse", 22, 2, 17).pairs(), 0);
        due("beyond in a column", standing("nsn", 17, 7, 2).pairs(), 1);
        due("below in a column", standing("nsn", 17, 7, 22).pairs(), 1);
        due("in another row", standing("ewn", 5, 9, 2).pairs(), 1);
        due("in another column", standing("snn", 5, 15, 11).pairs(), 1);
    }

    // "how many such twos there are now", from none to the most
    static void promise22HowManyThereAre() {
        due("one HUT", looking("n").pairs(), 0);
        due("five to the north", looking("nnnnn").pairs(), 0);
        due("neighbours", looking("ewewn").pairs(), 2);
        due("neighbours, from the second on", looking("newew").pairs(), 2);
        due("one in the midst LOOKS at one alone", looking("eww").pairs(), 1);
        due("one in the midst LOOKS at one alone", looking("eew").pairs(), 1);
        due("a cross", standing("sewnn", 2, 10, 14, 22, 24).pairs(), 2);
        changesNothing("pairs()", Edges::busy, HenHuts::pairs);
        HenHuts x = looking("eww");
        happen(x, "*");
        due("now", x.pairs(), 0);
        happen(x, "*");
        due("now", x.pairs(), 1);
    }

    // a HUT that goes elsewhere faces none any more; one that comes between parts them
    static void promise22HutsThatGo() {
        HenHuts x = standing("ewn", 0, 4, 12);
        due("in a row", x.pairs(), 1);
        x.hut(2, 3, 2);
        due("one came between", x.pairs(), 0);
        x.hut(2, 3, 7);
        due("it went", x.pairs(), 1);
        x.hut(1, 3, 24);
        due("one went away", x.pairs(), 0);
        x.hut(1, 3, 1);
        due("it came again", x.pairs(), 1);
        x.hut(1, 0, 0);
        due("it turned", x.pairs(), 0);
        x.huts(2);
        due("as at first", x.pairs(), 0);
    }

    // ---- danced

    // "OUTSIDE: 1, 2"
    static void promise23ManyIs1Or2() {
        refusedAll("danced", HenHuts::danced, OUTSIDE, 0, 3, -1, LEAST, MOST);
        due("1", looking("ew").danced(1), 0);
        due("2", looking("ewew").danced(2), 0);
        changesNothing("danced(1)", Edges::busy, x -> x.danced(1));
        changesNothing("danced(2)", Edges::busy, x -> x.danced(2));
    }

    // "so many PAIRS .. at least"
    static void promise23AtLeastSoMany() {
        due("two are one, too", looking("ewew").danced(1), 0);
        HenHuts x = spelling("ewen", "0003");
        due("one now", x.danced(1), 0);
        due("two by a WORD", x.danced(2), 1);
        HenHuts y = spelling("nnnn", "1313");
        due("from none to two", y.danced(1), 1);
        due("from none to two", y.danced(2), 1);
    }

    // "NONE"
    static void promise23ItCanNotBe() {
        due("no WORD", looking("nn").danced(1), NONE);
        due("one HUT", spelling("n", "1").danced(1), NONE);
        due("three HUTS", spelling("ewn", "001", "010", "100").danced(2), NONE);
        due("all turn alike", spelling("nn", "11").danced(1), NONE);
        HenHuts x = spelling("nn", "13");
        x.hut(1, 2, 1);
        due("a deaf one", x.danced(1), NONE);
    }

    // WORDS that are known: one that is forgotten is not said any more; the last is said as the first
    static void promise23WordsThatAreKnown() {
        for (int word : new int[] {0, 5}) {
            HenHuts x = looking("nnnn");
            learn(x, word, "1313");
            due("one two by it", x.danced(1), 1);
            due("two twos by it", x.danced(2), 1);
            x.unword(word);
            due("it is forgotten", x.danced(1), NONE);
            due("it is forgotten", x.danced(2), NONE);
        }
    }

    // "the fewest WORDS (LEGS not being looked at)"; ways come round
    static void promise23FewestWords() {
        due("one each", spelling("nn", "10", "03").danced(1), 2);
        due("round", spelling("nn", "10", "01").danced(1), 4);
        HenHuts x = spelling("nn", "10", "01");
        x.hut(0, 1, 0);
        x.hut(1, 1, 0);
        due("no LEGS", x.danced(1), 4);
        x.hut(1, 2, 2);
        due("a contrary one", x.danced(1), 2);
        due("two twos", spelling("nnnn", "1000", "0100", "0010", "0001").danced(2), 8);
        due("one of them", spelling("nnnn", "1000", "0100", "0010", "0001").danced(1), 4);
    }

    // ---- elected, majority

    // "the way to which most HUTS LOOK now; of several the least"
    static void promise24MostAndTheLeastOfSeveral() {
        String[] looks = {"n", "e", "s", "w", "nnnnn", "wwwww", "wn", "ws", "es", "wse", "wsen", "wsenw", "wwss",
            "wwsse", "nwwss", "neeww", "nnees", "wwwnn", "nnwww"};
        int[] ways = {0, 1, 2, 3, 0, 3, 0, 2, 1, 1, 0, 3, 2, 2, 2, 1, 0, 3, 3};
        for (int i = 0; i < looks.length; i++) {
            due("of " + looks[i], looking(looks[i]).elected(), ways[i]);
        }
        HenHuts x = looking("wwn");
        happen(x, "*");
        due("now", x.elected(), 1);
        changesNothing("elected()", Edges::busy, HenHuts::elected);
    }

    // "OUTSIDE": a way is 0 to 3
    static void promise25WaysGoFrom0To3() {
        for (int way = 0; way < 4; way++) {
            due("way " + way, looking(WAYS.substring(way, way + 1)).majority(way), 0);
        }
        refusedAll("majority", HenHuts::majority, OUTSIDE, -1, 4, LEAST, MOST);
        changesNothing("majority(1)", Edges::busy, x -> x.majority(1));
    }

    // "more than half": just half is not
    static void promise25MoreThanHalf() {
        String[] looks = {"w", "wn", "ww", "wnn", "wwn", "wwnn", "wwwn", "wwnnn", "wwwnn", "wnnnn"};
        int[] due = {0, NONE, 0, NONE, 0, NONE, 0, NONE, 0, NONE};
        for (int i = 0; i < looks.length; i++) {
            due("of " + looks[i], looking(looks[i]).majority(3), due[i]);
        }
        due("most of them, but not half", looking("wwnes").majority(3), NONE);
    }

    // WORDS that are known: one that is forgotten is not said any more; the last is said as the first
    static void promise25WordsThatAreKnown() {
        for (int word : new int[] {0, 5}) {
            HenHuts x = looking("nnn");
            learn(x, word, "110");
            due("by it", x.majority(1), 1);
            x.unword(word);
            due("it is forgotten", x.majority(1), NONE);
        }
    }

    // "the fewest WORDS"; "NONE"
    static void promise25FewestWords() {
        int[] due = {0, 1, 2, 3};
        for (int way = 0; way < 4; way++) {
            due("all by one", spelling("nnn", "111").majority(way), due[way]);
        }
        due("three of five", spelling("nnnnn", "10000", "01000", "00100", "00010", "00001").majority(1), 3);
        due("two of three", spelling("nnn", "100", "010", "001").majority(3), 6);
        due("two by two", spelling("nnn", "222").majority(1), NONE);
        HenHuts x = spelling("nnn", "111");
        x.hut(0, 2, 1);
        due("one deaf", x.majority(1), 1);
        x.hut(1, 2, 1);
        due("two deaf", x.majority(1), NONE);
        HenHuts y = one(0, "n", 0, "1");
        due("no LEGS", y.majority(3), 3);
    }
}

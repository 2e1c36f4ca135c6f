/** Edges of part 3: what is REACHED, SPELLED, how TIRED, a postman's ROUND (promises 14 to 20). */
public final class SpellsEdgesTest extends Edges {
    public static void main(String[] args) throws IllegalAccessException {
        runAll(SpellsEdgesTest.class);
    }

    /** Five HUTS of which each has a WORD that turns it alone by one. */
    private static HenHuts fiveFree(String looks) {
        return spelling(looks, "10000", "01000", "00100", "00010", "00001");
    }

    // ---- of all of them

    // "by WORDS that are known": one that is forgotten is not said any more, though it was asked for ahead
    static void terms3WordsThatAreForgottenAreNotSaid() {
        HenHuts x = spelling("nn", "10", "30", "01");
        due("reached()", x.reached(), 16);
        due("can(3)", x.can(3), 1);
        due("spelled", x.spelled(1, 3, -1), 1);
        due("tired", x.tired(1, 3), 3);
        due("able", x.able(1, 3), 1);
        due("without", x.without(0, 1, 3), 0);
        due("round", x.round(1, 3), 2);
        x.unword(1);
        due("reached()", x.reached(), 16);
        due("spelled", x.spelled(1, 3, -1), 3);
        due("tired", x.tired(1, 3), 3);
        due("able", x.able(1, 3), 3);
        due("without", x.without(0, 1, 3), NONE);
        due("without, whether it is", x.without(2, 1, 3), 0);
        due("round", x.round(1, 3), 4);
        x.unword(0);
        due("reached()", x.reached(), 4);
        due("can(3)", x.can(3), 0);
        due("spelled", x.spelled(1, 3, -1), NONE);
        due("spelled, its WORD", x.spelled(1, 3, 0), NONE);
        due("tired", x.tired(1, 3), NONE);
        due("able", x.able(1, 3), NONE);
        due("without", x.without(2, 1, 3), NONE);
        due("round", x.round(1, 3), NONE);
        x.unword(2);
        due("reached()", x.reached(), 1);
        due("can(4)", x.can(4), 0);
        due("spelled", x.spelled(2, 4, -1), NONE);
        due("tired", x.tired(2, 4), NONE);
        due("round", x.round(2, 1), NONE);
    }

    // "WORDS 0 to 5": the first alone, the last alone
    static void terms3TheFirstAndTheLastWord() {
        for (int word : new int[] {0, 5}) {
            HenHuts x = looking("nn");
            learn(x, word, "21");
            due("reached()", x.reached(), 4);
            due("can", x.can(number("se")), 1);
            due("spelled", x.spelled(3, number("se"), -1), 1);
            due("spelled, its WORD", x.spelled(3, number("se"), 0), word);
            due("tired", x.tired(3, number("se")), 3);
            due("able", x.able(3, number("se")), 1);
            due("without", x.without(word, 3, number("se")), NONE);
            due("round", x.round(3, 21), 3);
        }
    }

    // all five HUTS, to the last, from wherever they LOOK
    static void terms3TheLastOfFiveHuts() {
        HenHuts x = spelling("neesw", "00001", "00020");
        due("reached()", x.reached(), 8);
        due("can", x.can(number("neess")), 1);
        due("spelled", x.spelled(16, number("nnnns"), -1), 3);
        due("tired", x.tired(24, number("nnnns")), 5);
        due("able", x.able(16, number("nnnns")), 3);
        due("able, two of them", x.able(24, number("nnnns")), 4);
        due("without", x.without(0, 16, number("nnnns")), NONE);
        due("round", x.round(24, 2), 6);
        due("round, all", x.round(31, 1102), 9);
    }

    // ---- reached, can

    // "by WORDS that are known .. (with that of now)"
    static void promise14ByNoWordThereIsThatOfNow() {
        for (String looks : new String[] {"n", "w", "wwwww", "nes"}) {
            due("no WORD", looking(looks).reached(), 1);
        }
        due("a WORD that turns none", spelling("nnn", "000").reached(), 1);
        due("six of these", spelling("n", "0", "0", "0", "0", "0", "0").reached(), 1);
        HenHuts x = spelling("n", "1");
        x.unword(0);
        due("a WORD that is forgotten", x.reached(), 1);
        changesNothing("reached()", Edges::busy, HenHuts::reached);
    }

    // all numbers that there are
    static void promise14AllNumbersAreReached() {
        due("of one HUT", spelling("e", "1").reached(), 4);
        due("of two", spelling("en", "10", "01").reached(), 16);
        due("of three", spelling("enw", "100", "010", "003").reached(), 64);
        due("of four", spelling("enws", "1000", "0100", "0010", "0003").reached(), 256);
        due("of five", fiveFree("enwsn").reached(), 1024);
        HenHuts x = fiveFree("enwsn");
        for (int hut = 0; hut < 5; hut++) {
            x.hut(hut, 2, 2);
        }
        due("of five contrary ones", x.reached(), 1024);
        x.unword(4);
        due("the last one can not turn", x.reached(), 256);
    }

    // a turn comes round to its beginning
    static void promise14TurnsComeRound() {
        due("by one", spelling("n", "1").reached(), 4);
        due("by two", spelling("n", "2").reached(), 2);
        due("by three", spelling("n", "3").reached(), 4);
        due("five at once", spelling("neswn", "11111").reached(), 4);
        due("by two and by one", spelling("nn", "21").reached(), 4);
        due("by two and by none", spelling("nn", "20", "02").reached(), 4);
    }

    // "KINDS as they are"
    static void promise14KindsAreAsTheyAre() {
        due("deaf", one(1, "e", 9, "1", "2").reached(), 1);
        due("contrary", one(2, "e", 9, "1").reached(), 4);
        due("odd, to the north", one(3, "n", 9, "1", "2", "3").reached(), 1);
        due("odd, to the south", one(3, "s", 9, "1", "2", "3").reached(), 1);
        due("odd, east and south", one(3, "e", 9, "1").reached(), 2);
        due("odd, east and west", one(3, "e", 9, "2").reached(), 2);
        due("odd, all", one(3, "w", 9, "1", "2").reached(), 4);
    }

    // "(LEGS not being looked at ..)"
    static void promise14LegsAreNotLookedAt() {
        due("no LEGS", one(0, "n", 0, "3").reached(), 4);
    }

    // "LOOKS of all HUTS are a number: HUT 0's and 4 times HUT 1's .."; "OUTSIDE: there is no such number"
    static void promise15NumbersGoFrom0ToAllWest() {
        int beyond = 1;
        for (int n = 1; n <= 5; n++) {
            beyond *= 4;
            HenHuts x = looking("nnnnn".substring(0, n));
            due("all north, by " + n, x.can(0), 1);
            due("all west can not be", x.can(beyond - 1), 0);
            due("no such number", x.can(beyond), OUTSIDE);
            due("no such number", x.can(-1), OUTSIDE);
            due("all west, by " + n, looking("wwwww".substring(0, n)).can(beyond - 1), 1);
        }
        refusedAll("can", HenHuts::can, OUTSIDE, -1, 256, 1024, LEAST, MOST);
        changesNothing("can(5)", Edges::busy, x -> x.can(5));
    }

    // "4 times HUT 1's and 16 times HUT 2's, and so on"
    static void promise15EachHutHasItsPlaceInTheNumber() {
        due("HUT 0", looking("wnnnn").can(3), 1);
        due("HUT 1", looking("nwnnn").can(12), 1);
        due("HUT 2", looking("nnwnn").can(48), 1);
        due("HUT 3", looking("nnnwn").can(192), 1);
        due("HUT 4", looking("nnnnw").can(768), 1);
        due("all of them", looking("eswen").can(1 + 4 * 2 + 16 * 3 + 64 * 1), 1);
    }

    // "from now on": what was is not reached again, if there is no way back
    static void promise15FromNowOn() {
        HenHuts x = one(3, "e", 9, "1");
        due("now", x.can(1), 1);
        due("then", x.can(2), 1);
        due("never", x.can(0), 0);
        happen(x, "a");
        due("no way back", x.can(1), 0);
        due("now", x.can(2), 1);
        due("LEGS are not looked at", one(0, "n", 0, "1").can(3), 1);
    }

    // ---- spelled

    // "OUTSIDE: the set is not of HUTS, there is no such number", whatever i is
    static void promise16SetsAndNumbers() {
        int beyondSet = 1;
        int beyond = 1;
        for (int n = 1; n <= 5; n++) {
            beyondSet *= 2;
            beyond *= 4;
            HenHuts x = looking("wwwww".substring(0, n));
            for (int i : new int[] {-1, 0, -2, 1, LEAST, MOST}) {
                due("all HUTS, all west", x.spelled(beyondSet - 1, beyond - 1, i), i == -1 ? 0 : NONE);
                due("a HUT that there is not", x.spelled(beyondSet, 0, i), OUTSIDE);
                due("a HUT that there is not, too", x.spelled(beyondSet + 1, 0, i), OUTSIDE);
                due("less than nothing", x.spelled(-1, 0, i), OUTSIDE);
                due("no such number", x.spelled(0, beyond, i), OUTSIDE);
                due("no such number", x.spelled(1, beyond, i), OUTSIDE);
                due("no such number", x.spelled(0, -1, i), OUTSIDE);
            }
        }
        refusedAll("spelled, the set", (x, set) -> x.spelled(set, 0, -1), OUTSIDE, -1, 16, 17, LEAST, MOST);
        refusedAll("spelled, the number", (x, looks) -> x.spelled(1, looks, -1), OUTSIDE, -1, 256, LEAST, MOST);
        changesNothing("spelled(1, 3, -1)", Edges::busy, x -> x.spelled(1, 3, -1));
        changesNothing("spelled(1, 3, 0)", Edges::busy, x -> x.spelled(1, 3, 0));
    }

    // "how many (i = -1), the i-th WORD": the first and the last, none ahead of it, none behind it
    static void promise16WordsOfTheRow() {
        HenHuts x = spelling("n", "1", "2");
        due("how many", x.spelled(1, 3, -1), 2);
        due("the first WORD", x.spelled(1, 3, 0), 0);
        due("the last WORD", x.spelled(1, 3, 1), 1);
        for (int i : new int[] {2, 3, -2, -3, LEAST, MOST}) {
            due("no such WORD, i = " + i, x.spelled(1, 3, i), NONE);
        }
    }

    // a long row, and WORDS a to f in it
    static void promise16TheLongestRow() {
        HenHuts x = fiveFree("nnnnn");
        due("how many", x.spelled(31, 1023, -1), 15);
        for (int i = 0; i < 15; i++) {
            due("WORD " + i, x.spelled(31, 1023, i), i / 3);
        }
        due("none behind it", x.spelled(31, 1023, 15), NONE);
        HenHuts y = spelling("n", "0", "0", "0", "0", "0", "1");
        due("the last WORD that there can be", y.spelled(1, 1, 0), 5);
    }

    // it is so now, or nothing is asked: no WORD
    static void promise16NothingNeedsToBeSaid() {
        HenHuts x = spelling("wes", "111");
        due("it is so", x.spelled(7, number("wes"), -1), 0);
        due("no first WORD", x.spelled(7, number("wes"), 0), NONE);
        for (int looks : new int[] {0, 63}) {
            due("no HUT", x.spelled(0, looks, -1), 0);
            due("no first WORD", x.spelled(0, looks, 0), NONE);
            due("none below", x.spelled(0, looks, -2), NONE);
        }
        due("one of them", x.spelled(2, number("nen"), -1), 0);
    }

    // "NONE": it can not be
    static void promise16ItCanNotBe() {
        for (int i : new int[] {-1, 0, 1, -2, LEAST, MOST}) {
            due("no WORD", looking("n").spelled(1, 1, i), NONE);
            due("two by two", spelling("n", "2").spelled(1, 1, i), NONE);
            due("deaf", one(1, "n", 9, "1").spelled(1, 1, i), NONE);
            due("odd", one(3, "n", 9, "1").spelled(1, 1, i), NONE);
            due("both at once", spelling("nn", "11").spelled(3, number("en"), i), NONE);
        }
        due("each alone", spelling("nn", "11").spelled(1, number("en"), -1), 1);
    }

    // "(others as they may)"
    static void promise16OthersLookAsTheyMay() {
        HenHuts x = spelling("nnn", "112");
        for (int other = 0; other < 16; other++) {
            due("HUT 0 alone", x.spelled(1, 3 + 4 * other, -1), 3);
        }
        due("HUT 2 alone", x.spelled(4, number("nns"), -1), 1);
        due("HUTS 0 and 2", x.spelled(5, number("wws"), -1), 3);
        due("HUTS 0 and 2", x.spelled(5, number("wns"), -1), 3);
        due("not all", x.spelled(7, number("wns"), -1), NONE);
    }

    // "(of several rows the first by WORDS)"
    static void promise16TheFirstOfSeveralRows() {
        HenHuts x = spelling("n", "2", "1", "1");
        due("b, not c", x.spelled(1, 1, 0), 1);
        due("a, not b", x.spelled(1, 3, 0), 0);
        due("then b, not c", x.spelled(1, 3, 1), 1);
        x.unword(1);
        due("c", x.spelled(1, 1, 0), 2);
        due("a ahead of c", x.spelled(1, 3, 0), 0);
        due("then c", x.spelled(1, 3, 1), 2);
        HenHuts y = spelling("nn", "13", "10", "12");
        due("whatever the others do", y.spelled(1, 1, 0), 0);
        due("whatever the others do", y.spelled(1, 2, 0), 0);
        due("then too", y.spelled(1, 2, 1), 0);
        due("a a, not b c", y.spelled(3, number("ss"), 0), 0);
        due("a a, not b c, then", y.spelled(3, number("ss"), 1), 0);
        due("b b, not c c", y.spelled(3, number("sn"), 0), 1);
        due("b b, not c c, then", y.spelled(3, number("sn"), 1), 1);
    }

    // the order is that in which they are said: an odd HUT would be stuck by the other one
    static void promise16TheOrderOfWords() {
        HenHuts x = one(3, "e", 9, "1", "2");
        due("how many", x.spelled(1, 0, -1), 2);
        due("b", x.spelled(1, 0, 0), 1);
        due("then a", x.spelled(1, 0, 1), 0);
    }

    // ways come round, to the right and to the left
    static void promise16WaysComeRound() {
        int[][] due = {{0, 1, 2, 3}, {0, 3, 2, 1}};
        for (int way = 0; way < 4; way++) {
            due("by one", spelling("n", "1").spelled(1, way, -1), due[0][way]);
            due("by three", spelling("n", "3").spelled(1, way, -1), due[1][way]);
            due("a contrary one by one", one(2, "n", 9, "1").spelled(1, way, -1), due[1][way]);
            due("from the west", spelling("w", "1").spelled(1, way, -1), (way + 1) % 4);
        }
    }

    static void promise16LegsAreNotLookedAt() {
        due("no LEGS", one(0, "n", 0, "1").spelled(1, 3, -1), 3);
    }

    // ---- tired

    // "OUTSIDE, likewise"
    static void promise17SetsAndNumbers() {
        int beyondSet = 1;
        int beyond = 1;
        for (int n = 1; n <= 5; n++) {
            beyondSet *= 2;
            beyond *= 4;
            HenHuts x = looking("wwwww".substring(0, n));
            due("all HUTS, all west", x.tired(beyondSet - 1, beyond - 1), 0);
            due("a HUT that there is not", x.tired(beyondSet, 0), OUTSIDE);
            due("no such number", x.tired(0, beyond), OUTSIDE);
        }
        refusedAll("tired, the set", (x, set) -> x.tired(set, 0), OUTSIDE, -1, 16, 17, LEAST, MOST);
        refusedAll("tired, the number", (x, looks) -> x.tired(1, looks), OUTSIDE, -1, 256, LEAST, MOST);
        changesNothing("tired(1, 3)", Edges::busy, x -> x.tired(1, 3));
    }

    // it is so, or nothing is asked; "NONE"
    static void promise17NothingAndNone() {
        due("it is so", spelling("we", "11").tired(3, number("we")), 0);
        due("no HUT", spelling("we", "11").tired(0, 0), 0);
        due("no WORD", looking("n").tired(1, 1), NONE);
        due("two by two", spelling("n", "2").tired(1, 1), NONE);
        due("deaf", one(1, "n", 9, "1").tired(1, 1), NONE);
        due("odd", one(3, "s", 9, "1").tired(1, 1), NONE);
    }

    // "the fewest quarters in all": of all HUTS, and not by the fewest WORDS
    static void promise17FewestQuartersNotFewestWords() {
        HenHuts x = spelling("nn", "33", "10");
        due("three small ones", x.tired(1, 3), 3);
        due("though one would do", x.spelled(1, 3, -1), 1);
        due("those of others count", x.tired(2, number("nw")), 6);
        due("both", x.tired(3, number("ww")), 6);
        due("a big one, then a small one", x.tired(3, number("nw")), 7);
        HenHuts y = spelling("n", "1", "3");
        due("three, by one WORD or by three", y.tired(1, 3), 3);
        due("a big one is not better", y.tired(1, 2), 2);
    }

    // quarters go on as ways come round; the dearest
    static void promise17WaysComeRound() {
        due("three by three", spelling("n", "3").tired(1, 1), 9);
        due("three by three, to the left", one(2, "n", 9, "3").tired(1, 3), 9);
        due("three by one, to the left", one(2, "n", 9, "1").tired(1, 1), 3);
        due("five HUTS", spelling("nnnnn", "33333").tired(31, number("eeeee")), 45);
        due("one of five", spelling("nnnnn", "33333").tired(16, number("nnnne")), 45);
        due("five alone", fiveFree("nnnnn").tired(31, 1023), 15);
        due("five alone, by three",
            spelling("nnnnn", "30000", "03000", "00300", "00030", "00003").tired(31, number("eeeee")), 45);
    }

    // those that do not heed take none; LEGS are not looked at
    static void promise17KindsAndLegs() {
        HenHuts x = spelling("nn", "13");
        x.hut(1, 2, 1);
        due("a deaf one beside it", x.tired(1, 2), 2);
        x.hut(1, 2, 3);
        due("an odd one, to the north", x.tired(1, 2), 2);
        x.hut(1, 0, 1);
        due("an odd one, from east to north", x.tired(1, 2), 5);
        x.hut(1, 2, 2);
        due("a contrary one takes as many", x.tired(1, 2), 8);
        x.hut(0, 1, 0);
        x.hut(1, 1, 0);
        due("no LEGS", x.tired(1, 2), 8);
    }

    // ---- able

    // "OUTSIDE, likewise"
    static void promise18SetsAndNumbers() {
        int beyondSet = 1;
        int beyond = 1;
        for (int n = 1; n <= 5; n++) {
            beyondSet *= 2;
            beyond *= 4;
            HenHuts x = looking("wwwww".substring(0, n));
            due("all HUTS, all west", x.able(beyondSet - 1, beyond - 1), 0);
            due("a HUT that there is not", x.able(beyondSet, 0), OUTSIDE);
            due("no such number", x.able(0, beyond), OUTSIDE);
        }
        refusedAll("able, the set", (x, set) -> x.able(set, 0), OUTSIDE, -1, 16, 17, LEAST, MOST);
        refusedAll("able, the number", (x, looks) -> x.able(1, looks), OUTSIDE, -1, 256, LEAST, MOST);
        changesNothing("able(1, 3)", Edges::busy, x -> x.able(1, 3));
    }

    static void promise18NothingNeedsToBeSaid() {
        due("it is so", one(0, "w", 0, "1").able(1, 3), 0);
        due("no HUT", one(0, "w", 0, "1").able(0, 0), 0);
        due("no WORD, it is so", looking("es").able(3, number("es")), 0);
        due("no WORD, it is not so", looking("es").able(3, number("ee")), NONE);
    }

    // "by 5 WORDS at most; NONE: not by 5"
    static void promise18FiveWordsAreTheMost() {
        HenHuts x = spelling("nn", "10", "01");
        due("four", x.able(3, number("we")), 4);
        due("five", x.able(3, number("ws")), 5);
        due("five", x.able(3, number("sw")), 5);
        due("six", x.able(3, number("ww")), NONE);
        due("six are SPELLED", x.spelled(3, number("ww"), -1), 6);
        HenHuts y = spelling("nn", "11", "10");
        due("five", y.able(3, number("ew")), 5);
        due("six", y.able(3, number("sw")), NONE);
        HenHuts z = fiveFree("nnnnn");
        due("five HUTS by five", z.able(31, number("eeeee")), 5);
        due("five HUTS by six", z.able(31, number("eeees")), NONE);
    }

    // "LEGS being looked at": just so many, one too few
    static void promise18LegsAreLookedAt() {
        for (int way = 1; way < 4; way++) {
            String spell = "0123".substring(way, way + 1);
            due("by one WORD, just so many", one(0, "n", way, spell).able(1, way), 1);
            due("by one WORD, one too few", one(0, "n", way - 1, spell).able(1, way), NONE);
            due("by one each, just so many", one(0, "n", way, "1").able(1, way), way);
            due("by one each, one too few", one(0, "n", way - 1, "1").able(1, way), NONE);
            due("to the left, just so many", one(2, "n", way, spell).able(1, 4 - way), 1);
            due("to the left, one too few", one(2, "n", way - 1, spell).able(1, 4 - way), NONE);
        }
        due("small ones are left", one(0, "n", 3, "2", "1").able(1, 3), 2);
        due("odd, just so many", one(3, "e", 2, "2").able(1, 3), 1);
        due("odd, one too few", one(3, "e", 1, "2").able(1, 3), NONE);
    }

    // one that sits lets another go on: so it can be what SPELLED can not
    static void promise18ThoseThatSitAreOfUse() {
        HenHuts x = spelling("nn", "11");
        x.hut(0, 1, 1);
        due("HUT 0 sits behind one", x.able(3, number("es")), 2);
        due("not SPELLED", x.spelled(3, number("es"), -1), NONE);
        x.hut(1, 1, 4);
        due("HUT 1 comes round", x.able(3, number("en")), 4);
        x.hut(1, 1, 3);
        due("HUT 1 has too few", x.able(3, number("en")), NONE);
        x.hut(0, 1, 0);
        due("HUT 0 never turns", x.able(3, number("nw")), 3);
    }

    // "(as they are now, no NIGHT)"
    static void promise18LegsAreAsTheyAreNow() {
        HenHuts x = one(0, "n", 3, "1");
        happen(x, "a");
        due("two more", x.able(1, 3), 2);
        happen(x, "a");
        due("one more", x.able(1, 3), 1);
        due("not two more", x.able(1, 0), NONE);
        happen(x, ".");
        due("behind a NIGHT", x.able(1, 0), 2);
    }

    // ---- without

    // "UNKNOWN: the WORD is not known; OUTSIDE, likewise"
    static void promise19WordsSetsAndNumbers() {
        refusedAll("without", (x, word) -> x.without(word, 1, 0), UNKNOWN, 1, 2, 3, 5, -1, 6, 32, LEAST, MOST);
        refusedAll("without, the set", (x, set) -> x.without(0, set, 0), OUTSIDE, -1, 16, 17, LEAST, MOST);
        refusedAll("without, the number", (x, looks) -> x.without(4, 1, looks), OUTSIDE, -1, 256, LEAST, MOST);
        changesNothing("without(0, 1, 3)", Edges::busy, x -> x.without(0, 1, 3));
        HenHuts x = spelling("wwwww", "00000", "00000", "00000", "00000", "00000", "00000");
        due("the last WORD, set and number", x.without(5, 31, 1023), 0);
        due("no such set", x.without(5, 32, 0), OUTSIDE);
        due("no such number", x.without(5, 0, 1024), OUTSIDE);
    }

    // "by how many WORDS SPELLED is more"
    static void promise19HowManyMore() {
        HenHuts x = spelling("n", "3", "1");
        due("by two", x.without(0, 1, 3), 2);
        due("by none", x.without(1, 1, 3), 0);
        due("by two", x.without(1, 1, 1), 2);
        due("by none, of two rows", x.without(0, 1, 2), 0);
        due("it is so", x.without(0, 1, 0), 0);
        due("no HUT", x.without(0, 0, 3), 0);
        due("another one like it", spelling("n", "1", "1").without(0, 1, 3), 0);
        due("LEGS are not looked at", one(0, "n", 0, "3", "1").without(0, 1, 3), 2);
    }

    // "NONE: it can not be then, or not at all"
    static void promise19ItCanNotBe() {
        due("not then", spelling("n", "1", "2").without(0, 1, 3), NONE);
        due("the only WORD", spelling("n", "1").without(0, 1, 3), NONE);
        due("the only WORD, but it is so", spelling("w", "1").without(0, 1, 3), 0);
        due("not at all", one(1, "n", 9, "1", "2").without(0, 1, 3), NONE);
        due("not at all", spelling("n", "2", "0").without(1, 1, 3), NONE);
    }

    // ---- round

    // "OUTSIDE: the set is not of HUTS"
    static void promise20Sets() {
        int beyond = 1;
        for (int n = 1; n <= 5; n++) {
            beyond *= 2;
            HenHuts x = looking("nnnnn".substring(0, n));
            due("all HUTS", x.round(beyond - 1, 0), n);
            due("a HUT that there is not", x.round(beyond, 0), OUTSIDE);
        }
        refusedAll("round, the set", (x, set) -> x.round(set, 0), OUTSIDE, -1, 16, 17, LEAST, MOST);
        changesNothing("round(3, 22)", Edges::busy, x -> x.round(3, 22));
    }

    // "the sides not as told": "a digit 0 to 3 for each of the set"
    static void promise20SidesAreDigits0To3() {
        HenHuts x = looking("wwwww");
        due("all west", x.round(31, 33333), 5);
        for (int place = 1; place <= 10000; place *= 10) {
            due("4 at place " + place, x.round(31, 33333 + place), OUTSIDE);
            due("9 at place " + place, x.round(31, 9 * place), OUTSIDE);
            due("3 at place " + place, x.round(31, 3 * place), NONE);
        }
        due("a sixth digit", x.round(31, 100000), OUTSIDE);
        refusedAll("round, the sides", (y, sides) -> y.round(5, sides), OUTSIDE, -1, -10, -11, 4, 40, 34, 43, 100,
            111, LEAST, MOST);
        refusedAll("round of nobody", (y, sides) -> y.round(0, sides), OUTSIDE, -1, 1, 3, 10, LEAST, MOST);
        refusedAll("round of one", (y, sides) -> y.round(8, sides), OUTSIDE, -1, 4, 10, 12, LEAST, MOST);
    }

    // "(.. for each of the set, the least HUT's the highest of a number to ten)"
    static void promise20TheLeastHutsDigitIsTheHighest() {
        HenHuts x = looking("eswnn");
        due("HUTS 0, 1, 2", x.round(7, 123), 3);
        due("the other way", x.round(7, 321), NONE);
        due("HUTS 0 and 2", x.round(5, 13), 2);
        due("HUTS 1 and 4", x.round(18, 20), 2);
        due("HUTS 3 and 0: a digit for each", x.round(9, 10), 2);
        due("HUTS 3 and 4: two times 0", x.round(24, 0), 2);
        due("all", x.round(31, 12300), 5);
        due("HUT 3 alone", x.round(8, 0), 1);
        HenHuts y = looking("nwe");
        due("a highest digit 0", y.round(7, 31), 3);
    }

    // nobody gets a letter: no minute
    static void promise20Nobody() {
        due("no HUT", spelling("n", "1").round(0, 0), 0);
        due("no HUT of five", new HenHuts().round(0, 0), 0);
    }

    // "each WORD takes a minute, each knock one"; ways come round
    static void promise20WordsAndKnocksTakeAMinute() {
        int[] right = {1, 2, 3, 4};
        int[] left = {1, 4, 3, 2};
        for (int way = 0; way < 4; way++) {
            due("by one", spelling("n", "1").round(1, way), right[way]);
            due("by three", spelling("n", "3").round(1, way), left[way]);
            due("a contrary one", one(2, "n", 9, "1").round(1, way), left[way]);
            due("no LEGS", one(0, "n", 0, "1").round(1, way), right[way]);
        }
        due("the longest", fiveFree("nnnnn").round(31, 33333), 20);
    }

    // "till all are in": not all at once, and none need be where another is
    static void promise20LettersGoInOneByOne() {
        HenHuts x = spelling("nn", "11");
        due("on the way", x.round(3, 12), 4);
        due("on the way, the other first", x.round(3, 21), 4);
        due("they never LOOK so", x.spelled(3, number("es"), -1), NONE);
        due("now and last", x.round(3, 3), 5);
        HenHuts y = spelling("een", "111");
        y.hut(0, 2, 3);
        due("an odd one is knocked at first", y.round(5, 11), 3);
        due("an odd one stays south", y.round(5, 23), 5);
        due("an odd one never LOOKS north", y.round(1, 0), NONE);
    }

    // rows of WORDS that end alike may have brought other letters on the way
    static void promise20WhichLettersAreInOnTheWay() {
        HenHuts x = spelling("nn", "12", "21");
        due("by b, then a", x.round(3, 23), 4);
        due("by a, then b", x.round(3, 13), 4);
        due("by b, then a", x.round(3, 31), 4);
        due("by a, then b", x.round(3, 32), 4);
        HenHuts y = spelling("nn", "22", "10");
        due("by b, then a", y.round(3, 12), 4);
        due("by a, then b", y.round(3, 32), 4);
        HenHuts z = spelling("nn", "22", "13");
        due("one now, then by both", z.round(3, 30), 4);
        HenHuts still = spelling("ww", "00", "10");
        due("beside a WORD that turns none", still.round(1, 2), 4);
        due("beside a WORD that turns none, both", still.round(3, 3 + 20), 5);
    }

    // "NONE"
    static void promise20SomeCanNotBe() {
        due("no WORD", looking("nn").round(3, 1), NONE);
        due("deaf", one(1, "n", 9, "1").round(1, 1), NONE);
        due("odd", one(3, "n", 9, "1").round(1, 1), NONE);
        HenHuts x = spelling("nn", "12");
        due("one of two can not be", x.round(3, 11), NONE);
        due("one of two can not be", x.round(3, 33), NONE);
        due("both can", x.round(3, 12), 3);
        HenHuts y = spelling("ee", "11");
        y.hut(0, 2, 3);
        y.hut(1, 2, 3);
        due("two odd ones, one now and one then", y.round(3, 12), 3);
        HenHuts z = spelling("ee", "13", "31");
        z.hut(0, 2, 3);
        z.hut(1, 2, 3);
        due("by one WORD they part", z.round(3, 20), 3);
        due("both can, but not both of them", z.round(3, 22), NONE);
    }
}

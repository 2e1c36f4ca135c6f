/** Edges of part 1: HUTS, the PAD, SPELLS, WORDS (promises 1 to 8). */
public final class HutsEdgesTest extends Edges {
    private static final String DOTS = "............................................................";

    public static void main(String[] args) throws IllegalAccessException {
        runAll(HutsEdgesTest.class);
    }

    // ---- a new object

    // "Three HUTS"; "HUT k on CELL k at first", LOOKS "0 at first", LEGS "9 at first", KIND "0 plain (at first)"
    static void promise01ThreeHutsAreAsAtFirst() {
        dueAtFirst(new HenHuts(), 3);
    }

    // "no WORDS"
    static void promise01NoWordIsKnown() {
        HenHuts x = new HenHuts();
        due("told(2)", x.told(2), 0);
        for (int word = 0; word < 6; word++) {
            due("unword(" + word + ")", x.unword(word), UNKNOWN);
            pad(x, "abcdef".substring(word, word + 1));
            due("why", x.judge(1), 1);
        }
    }

    static void promise01NothingElseIsThere() {
        HenHuts x = new HenHuts();
        due("signs", x.told(0), 0);
        due("SIGHTS", x.told(3), 0);
        due("IMAGE 0", x.restore(0), STATE);
        due("IMAGE 1", x.restore(1), STATE);
    }

    // an object of its own: no other one is changed by it
    static void promise01ObjectsHaveNothingInCommon() {
        HenHuts x = new HenHuts();
        HenHuts busy = busy();
        busy.image(0);
        dueSame("behind another object's calls", x, new HenHuts());
    }

    // ---- huts

    // "n 1 to 5"; "OUTSIDE"
    static void promise02OneHutIsTheFewest() {
        HenHuts x = new HenHuts();
        due("huts(1)", x.huts(1), 3);
        dueAtFirst(x, 1);
        refusedAll("huts", HenHuts::huts, OUTSIDE, 0, -1, LEAST);
    }

    static void promise02FiveHutsAreTheMost() {
        HenHuts x = new HenHuts();
        due("huts(5)", x.huts(5), 3);
        dueAtFirst(x, 5);
        refusedAll("huts", HenHuts::huts, OUTSIDE, 6, 7, MOST);
    }

    // "which it was"
    static void promise02TellsWhichItWas() {
        HenHuts x = new HenHuts();
        int[] next = {5, 1, 1, 4, 2, 3, 3};
        int[] was = {3, 5, 1, 1, 4, 2, 3};
        for (int i = 0; i < next.length; i++) {
            due("huts(" + next[i] + ")", x.huts(next[i]), was[i]);
        }
    }

    // "All HUTS are as at first", though there are as many as there were
    static void promise02AllHutsAreAsAtFirst() {
        for (int n = 1; n <= 5; n++) {
            HenHuts x = new HenHuts();
            x.huts(5);
            for (int hut = 0; hut < 5; hut++) {
                x.hut(hut, 3, 24 - hut);
                x.hut(hut, 0, 3);
                x.hut(hut, 1, 20);
                x.hut(hut, 2, 2);
            }
            learn(x, 0, "11111");
            happen(x, "a");
            due("they LOOK south", x.told(4), number("sssss"));
            due("they are tired", x.told(51), 19);
            x.huts(n);
            dueAtFirst(x, n);
            x.huts(5);
            dueAtFirst(x, 5);
        }
    }

    // "no WORD is known"
    static void promise02NoWordIsKnown() {
        HenHuts x = spelling("nn", "11", "22", "33", "12", "21", "00");
        due("all six", x.told(2), 63);
        x.huts(2);
        due("none", x.told(2), 0);
        for (int word = 0; word < 6; word++) {
            due("told", x.told(100 * (1 + word)), OUTSIDE);
            due("unword", x.unword(word), UNKNOWN);
        }
        due("nothing is reached by them", x.reached(), 1);
    }

    // HUTS that there are not any more neither turn nor sit, by WORDS that they had once heeded
    static void promise02HutsThatWentDoNotTurn() {
        HenHuts x = spelling("nnnnn", "11123", "32111");
        x.huts(2);
        learn(x, 0, "20");
        learn(x, 1, "22");
        due("reached()", x.reached(), 4);
        due("can(2)", x.can(2), 1);
        due("spelled", x.spelled(3, number("ns"), -1), 2);
        due("tired", x.tired(1, 2), 2);
        due("able", x.able(3, number("ss")), 1);
        due("round", x.round(3, 22), 3);
        due("majority", x.majority(2), 1);
        pad(x, "ab");
        due("turns", x.judge(2), 6);
        due("done()", x.done(), 2);
        due("LOOKS", x.told(4), number("ns"));
        for (int word = 2; word < 6; word++) {
            learn(x, word, "20");
        }
        learn(x, 1, "20");
        due("ninety, turns", x.ninety(0, 1, 0), 2);
        x.hut(0, 1, 0);
        due("ninety, who sat", x.ninety(0, 1, 2), 1);
    }

    // "SIGHTS go"
    static void promise02SightsGo() {
        HenHuts x = new HenHuts();
        for (int i = 0; i < 6; i++) {
            x.seen(0, 0, 1);
        }
        x.huts(3);
        due("told(3)", x.told(3), 0);
        due("tracks(0)", x.tracks(0), 64);
        due("a SIGHT more", x.seen(0, 0, 2), 1);
    }

    // no more is named: what is on the PAD is left, and IMAGES are
    static void promise02ThePadAndImagesStay() {
        HenHuts x = new HenHuts();
        x.hut(0, 0, 2);
        x.image(0);
        write(x, "13");
        due("a SPELL of two is too short", x.fault(0), 2);
        x.huts(2);
        due("signs", x.told(0), 2);
        due("a SPELL of two", x.fault(0), NONE);
        x.huts(1);
        due("one too many", x.fault(0), 1);
        due("restore(0)", x.restore(0), 1);
        due("told(4)", x.told(4), 2);
    }

    // ---- hut

    // "HUTS 0 to n less 1"; "UNKNOWN"
    static void promise03HutsGoFromNoughtToTheLast() {
        for (int n = 1; n <= 5; n++) {
            HenHuts x = new HenHuts();
            x.huts(n);
            due("the first", x.hut(0, 0, 1), 0);
            due("the last", x.hut(n - 1, 0, 2), n == 1 ? 1 : 0);
            due("one more", x.hut(n, 0, 1), UNKNOWN);
            due("one less", x.hut(-1, 0, 1), UNKNOWN);
        }
        refusedAll("hut", (x, hut) -> x.hut(hut, 0, 3), UNKNOWN, -1, 4, 5, LEAST, MOST);
    }

    // "LOOKS 0 north, 1 east, 2 south, 3 west"
    static void promise03LooksGoFrom0To3() {
        HenHuts x = new HenHuts();
        due("hut(1, 0, 3)", x.hut(1, 0, 3), 0);
        due("hut(1, 0, 0)", x.hut(1, 0, 0), 3);
        due("it LOOKS north", x.state(1, 0), 0);
        refusedAll("LOOKS", (y, v) -> y.hut(1, 0, v), OUTSIDE, -1, 4, LEAST, MOST);
    }

    // "LEGS (0 to 30 ..)"
    static void promise03LegsGoFrom0To30() {
        HenHuts x = new HenHuts();
        due("hut(1, 1, 30)", x.hut(1, 1, 30), 9);
        due("at most", x.told(22), 30);
        due("hut(1, 1, 0)", x.hut(1, 1, 0), 30);
        due("at most", x.told(22), 0);
        due("hut(1, 1, 1)", x.hut(1, 1, 1), 0);
        refusedAll("LEGS", (y, v) -> y.hut(1, 1, v), OUTSIDE, -1, 31, LEAST, MOST);
    }

    // "its LEGS (1: at most, and now)"
    static void promise03LegsAreBothAtMostAndNow() {
        HenHuts x = one(0, "n", 9, "3");
        happen(x, "a");
        due("now", x.told(11), 6);
        due("at most", x.told(12), 9);
        x.hut(0, 1, 2);
        due("now", x.told(11), 2);
        due("at most", x.told(12), 2);
        x.hut(0, 1, 30);
        due("now", x.told(11), 30);
        due("at most", x.told(12), 30);
    }

    // "a KIND: 0 plain, 1 deaf, 2 contrary, 3 odd"
    static void promise03KindsGoFrom0To3() {
        HenHuts x = new HenHuts();
        due("hut(1, 2, 3)", x.hut(1, 2, 3), 0);
        due("hut(1, 2, 0)", x.hut(1, 2, 0), 3);
        due("told(23)", x.told(23), 0);
        refusedAll("KIND", (y, v) -> y.hut(1, 2, v), OUTSIDE, -1, 4, LEAST, MOST);
    }

    // "CELLS of a square, five by five, row by row (0 to 24 ..)"
    static void promise03CellsGoFrom0To24() {
        HenHuts x = new HenHuts();
        due("hut(0, 3, 24)", x.hut(0, 3, 24), 0);
        due("hut(1, 3, 0)", x.hut(1, 3, 0), 1);
        due("told(14)", x.told(14), 24);
        due("told(24)", x.told(24), 0);
        refusedAll("CELL", (y, v) -> y.hut(1, 3, v), OUTSIDE, -1, 25, LEAST, MOST);
    }

    // "STATE: another HUT is on that CELL"; "no two on one"
    static void promise03NoTwoHutsAreOnOneCell() {
        for (int taken : new int[] {20, 2, 24}) {
            refused("HUT 1 to CELL " + taken, Edges::busy, x -> x.hut(1, 3, taken), STATE);
        }
        HenHuts x = new HenHuts();
        due("its own CELL", x.hut(0, 3, 0), 0);
        due("that of another one", x.hut(0, 3, 2), STATE);
        due("that of a HUT that there is not", x.hut(0, 3, 3), 0);
        due("one that was left", x.hut(2, 3, 0), 2);
        due("one that was left", x.hut(1, 3, 2), 1);
        due("not left any more", x.hut(0, 3, 0), STATE);
        x.huts(5);
        due("the last HUT's", x.hut(0, 3, 4), STATE);
        due("the first HUT's", x.hut(4, 3, 0), STATE);
    }

    // "what = 0 .. 3"; "OUTSIDE"
    static void promise03WhatGoesFrom0To3() {
        refusedAll("what", (x, what) -> x.hut(1, what, 1), OUTSIDE, -1, 4, LEAST, MOST);
    }

    // one value of one HUT alone becomes another
    static void promise03NothingElseIsChanged() {
        for (int what = 0; what < 4; what++) {
            HenHuts x = new HenHuts();
            x.hut(1, what, 3);
            for (int hut = 0; hut < 3; hut++) {
                due("LOOKS", x.told(10 * (1 + hut)), hut == 1 && what == 0 ? 3 : 0);
                due("LEGS now", x.told(10 * (1 + hut) + 1), hut == 1 && what == 1 ? 3 : 9);
                due("LEGS at most", x.told(10 * (1 + hut) + 2), hut == 1 && what == 1 ? 3 : 9);
                due("KIND", x.told(10 * (1 + hut) + 3), hut == 1 && what == 2 ? 3 : 0);
                due("CELL", x.told(10 * (1 + hut) + 4), hut == 1 && what == 3 ? 3 : hut);
            }
        }
    }

    // ---- say, wipe

    // "codes 33 to 126"; "OUTSIDE"
    static void promise04SignsGoFrom33To126() {
        HenHuts x = new HenHuts();
        due("say(33)", x.say(33), 1);
        due("say(126)", x.say(126), 2);
        refusedAll("say", HenHuts::say, OUTSIDE, 32, 127, 0, -1, 31, 128, 33 + 256, LEAST, MOST);
    }

    // "60 signs at most"; "FULL"
    static void promise04SixtySignsAreTheMost() {
        HenHuts x = new HenHuts();
        for (int i = 1; i <= 60; i++) {
            due("sign " + i, x.say('*'), i);
        }
        due("sign 61", x.say('*'), FULL);
        due("sign 61 again", x.say('*'), FULL);
        due("signs", x.told(0), 60);
        refused("sign 61", () -> busy(DOTS), y -> y.say('a'), FULL);
        x.wipe();
        due("the first again", x.say('*'), 1);
    }

    // "Signs go: how many there were"
    static void promise05TellsHowManyThereWere() {
        HenHuts x = new HenHuts();
        due("of none", x.wipe(), 0);
        x.say('a');
        due("of one", x.wipe(), 1);
        due("of none again", x.wipe(), 0);
        write(x, DOTS);
        due("of sixty", x.wipe(), 60);
        due("signs", x.told(0), 0);
    }

    // signs go, and nothing else
    static void promise05NothingElseGoes() {
        HenHuts x = busy("a0s");
        x.wipe();
        dueSame("behind wipe()", x, busy(""));
    }

    // ---- fault

    private static void fault(int n, int how, String text, int want) {
        HenHuts x = new HenHuts();
        x.huts(n);
        write(x, text);
        due("fault(" + how + ") of " + text + " by " + n, x.fault(how), want);
    }

    // "how: 0 SPELL, 1 EVENING"; "OUTSIDE: how"
    static void promise06HowIs0Or1() {
        refusedAll("fault", HenHuts::fault, OUTSIDE, -1, 2, LEAST, MOST);
        changesNothing("fault(0)", Edges::busy, x -> x.fault(0));
        changesNothing("fault(1)", Edges::busy, x -> x.fault(1));
    }

    // "a SPELL: n digits 0 to 3": each sign that there is, at the first place and at the last
    static void promise06SpellHasDigits0To3() {
        for (int sign = 33; sign <= 126; sign++) {
            boolean digit = "0123".indexOf(sign) >= 0;
            fault(1, 0, Character.toString(sign), digit ? NONE : 0);
            fault(5, 0, "0000" + (char) sign, digit ? NONE : 4);
            fault(5, 0, "00" + (char) sign, digit ? 3 : 2);
        }
    }

    // "n digits"; "or the number of signs, if more must come"
    static void promise06SpellHasAsManyDigitsAsThereAreHuts() {
        String digits = "321032";
        for (int n = 1; n <= 5; n++) {
            for (int length = 0; length < n; length++) {
                fault(n, 0, digits.substring(0, length), length);
            }
            fault(n, 0, digits.substring(0, n), NONE);
            fault(n, 0, digits.substring(0, n + 1), n);
            fault(n, 0, digits.substring(0, n) + "x", n);
            fault(n, 0, DOTS.replace('.', '3'), n);
        }
    }

    // "the first sign that can not stand there"
    static void promise06SpellIsFaultyAtTheFirst() {
        fault(3, 0, "4x5", 0);
        fault(3, 0, "0x5", 1);
        fault(3, 0, "00x0", 2);
        fault(3, 0, "000x5", 3);
    }

    // "a letter a to f, * , . , a digit 0 to 4": each sign that there is, where an EVENT begins
    static void promise06EveningsBeginEventsWithTheseSigns() {
        for (int sign = 33; sign <= 126; sign++) {
            int alone = "abcdef*.".indexOf(sign) >= 0 ? NONE : "01234".indexOf(sign) >= 0 ? 1 : 0;
            fault(5, 1, Character.toString(sign), alone);
            int behind = alone == NONE ? NONE : 3 + alone;
            fault(5, 1, "a0n" + (char) sign, behind);
        }
    }

    // "and n, e, s or w": each sign that there is, behind a digit
    static void promise06KnocksEndWithASide() {
        for (int sign = 33; sign <= 126; sign++) {
            fault(3, 1, "2" + (char) sign, "nesw".indexOf(sign) >= 0 ? NONE : 1);
            fault(3, 1, "*0" + (char) sign + "a", "nesw".indexOf(sign) >= 0 ? NONE : 2);
        }
    }

    // "a digit of a HUT that there is not, too"
    static void promise06DigitsAreOfHutsThatThereAre() {
        for (int n = 1; n <= 5; n++) {
            for (int hut = 0; hut < 10; hut++) {
                fault(n, 1, hut + "n", hut < n ? NONE : 0);
                fault(n, 1, "0s" + hut + "w", hut < n ? NONE : 2);
                fault(n, 1, "." + hut, hut < n ? 2 : 1);
            }
        }
    }

    // nothing at all is no SPELL, but it is an EVENING without EVENTS
    static void promise06NothingOnThePad() {
        fault(1, 0, "", 0);
        fault(5, 0, "", 0);
        fault(1, 1, "", NONE);
        fault(5, 1, "", NONE);
    }

    // "or the number of signs, if more must come", with all 60 places taken too
    static void promise06EveningsThatFillThePad() {
        fault(3, 1, DOTS, NONE);
        fault(3, 1, DOTS.substring(0, 59) + "0", 60);
        fault(3, 1, DOTS.substring(0, 58) + "0n", NONE);
        fault(3, 1, DOTS.substring(0, 59) + "n", 59);
        fault(3, 1, DOTS.substring(0, 59) + "3", 59);
        fault(3, 1, DOTS.replace("..", "1s"), NONE);
    }

    // "the first sign that can not stand there"
    static void promise06EveningIsFaultyAtTheFirst() {
        fault(3, 1, "xyz", 0);
        fault(3, 1, "axz", 1);
        fault(3, 1, "0x1y", 1);
        fault(3, 1, "00", 1);
        fault(3, 1, "0nn", 2);
        fault(3, 1, "0ee", NONE);
        fault(3, 1, "0ef0", 4);
    }

    // ---- word, unword

    // "WORDS 0 to 5 (a to f)"; "UNKNOWN: the number"
    static void promise07WordsGoFrom0To5() {
        HenHuts x = new HenHuts();
        write(x, "123");
        due("word(0)", x.word(0), 1);
        write(x, "321");
        due("word(5)", x.word(5), 2);
        due("told(2)", x.told(2), 33);
        pad(x, "af");
        due("a and f are known", x.judge(0), NONE);
        for (int word : new int[] {-1, 6, 7, 32, LEAST, MOST}) {
            refused("word(" + word + ")", () -> busy("0123"), y -> y.word(word), UNKNOWN);
        }
    }

    // "how many are known", from none to all
    static void promise07TellsHowManyAreKnown() {
        HenHuts x = new HenHuts();
        int[] order = {3, 0, 5, 1, 4, 2};
        for (int i = 0; i < 6; i++) {
            write(x, "111");
            due("WORD " + order[i], x.word(order[i]), i + 1);
        }
        due("told(2)", x.told(2), 63);
        for (int word = 0; word < 6; word++) {
            write(x, "222");
            due("WORD " + word + " otherwise", x.word(word), 6);
        }
    }

    // "becomes a WORD (or otherwise; the PAD is empty then)"
    static void promise07WordsBecomeOtherwise() {
        HenHuts x = new HenHuts();
        learn(x, 1, "123");
        learn(x, 2, "111");
        learn(x, 1, "301");
        due("the PAD is empty", x.told(0), 0);
        int[] turns = {3, 0, 1};
        for (int hut = 0; hut < 3; hut++) {
            due("its turn", x.told(200 + hut), turns[hut]);
            due("the other WORD's", x.told(300 + hut), 1);
        }
    }

    // "n digits 0 to 3 (the turn of HUT 0, 1 and so on)"
    static void promise07DigitsAreTurnsFromHut0On() {
        String digits = "30213";
        for (int n = 1; n <= 5; n++) {
            HenHuts x = new HenHuts();
            x.huts(n);
            write(x, digits.substring(0, n));
            due("word(4)", x.word(4), 1);
            for (int hut = 0; hut < n; hut++) {
                due("HUT " + hut, x.told(500 + hut), digits.charAt(hut) - '0');
            }
            due("no HUT more", x.told(500 + n), OUTSIDE);
        }
    }

    // "NO: there is a FAULT (0)"
    static void promise07FaultySpellsAreRefused() {
        for (String text : new String[] {"", "012", "01230", "0124", "/123", "a123", "012.", DOTS}) {
            refused("word(0) of " + text, () -> busy(text), x -> x.word(0), NO);
            refused("word(1) of " + text, () -> busy(text), x -> x.word(1), NO);
        }
    }

    // "A WORD is forgotten: how many are known"
    static void promise08TellsHowManyAreKnown() {
        HenHuts x = spelling("nnn", "111", "111", "111", "111", "111", "111");
        int[] order = {5, 0, 3, 1, 4, 2};
        int known = 63;
        for (int i = 0; i < 6; i++) {
            due("unword(" + order[i] + ")", x.unword(order[i]), 5 - i);
            known -= 1 << order[i];
            due("told(2)", x.told(2), known);
            due("its turn", x.told(100 * (1 + order[i])), OUTSIDE);
        }
    }

    // "UNKNOWN: it was not"
    static void promise08WordsThatAreNotKnown() {
        refusedAll("unword", HenHuts::unword, UNKNOWN, 1, 2, 3, 5, -1, 6, 32, 36, LEAST, MOST);
        HenHuts x = spelling("nnn", "111");
        due("unword(0)", x.unword(0), 0);
        due("unword(0) again", x.unword(0), UNKNOWN);
    }

    // what is forgotten is not said any more, and nothing else is forgotten
    static void promise08NothingElseIsForgotten() {
        HenHuts x = busy();
        x.unword(0);
        due("the other WORD", x.told(2), 16);
        due("its turn", x.told(500), 3);
        due("the PAD stays", x.told(0), 5);
        due("it can be without a", x.judge(0), NONE);
        pad(x, "a");
        due("it is not known", x.judge(1), 1);
        learn(x, 0, "1231");
        write(x, "e0e*.");
        dueSame("learned again", x, busy());
    }

    // ---- how WORDS, THUNDER and NIGHTS turn HUTS (part 1 of the terms)

    private static void turned(int kind, String look, int legs, String event, String then, int left) {
        HenHuts x = one(kind, look, legs, "0", "1", "2", "3");
        happen(x, event);
        dueHut("KIND " + kind + ", " + look + ", " + legs + ", " + event, x, 0, then, left);
    }

    // "how many quarters it turns by it (0 to 3, to the right)": west comes round to north
    static void terms1PlainHutsTurnToTheRightAndRound() {
        String[] rows = {"nesw", "eswn", "swne", "wnes"};
        for (String row : rows) {
            for (int turn = 0; turn < 4; turn++) {
                turned(0, row.substring(0, 1), 9, "abcd".substring(turn, turn + 1), row.substring(turn, turn + 1),
                    9 - turn);
            }
        }
    }

    // "a contrary one by as much to the left": north comes round to west; "has as many LEGS less"
    static void terms1ContraryHutsTurnToTheLeftAndRound() {
        String[] rows = {"nwse", "enws", "senw", "wsen"};
        for (String row : rows) {
            for (int turn = 0; turn < 4; turn++) {
                turned(2, row.substring(0, 1), 9, "abcd".substring(turn, turn + 1), row.substring(turn, turn + 1),
                    9 - turn);
            }
        }
    }

    // "1 deaf (heeds no WORD)"
    static void terms1DeafHutsHeedNoWord() {
        for (String look : new String[] {"n", "e", "s", "w"}) {
            for (String word : new String[] {"a", "b", "c", "d"}) {
                turned(1, look, 9, word, look, 9);
            }
        }
    }

    // "3 odd (heeds a WORD only, if it LOOKS east or west)"
    static void terms1OddHutsHeedOnlyEastAndWest() {
        String[] rows = {"nnnn", "eswn", "ssss", "wnes"};
        for (String row : rows) {
            boolean heeds = row.charAt(0) == 'e' || row.charAt(0) == 'w';
            for (int turn = 0; turn < 4; turn++) {
                turned(3, row.substring(0, 1), 9, "abcd".substring(turn, turn + 1), row.substring(turn, turn + 1),
                    heeds ? 9 - turn : 9);
            }
        }
        turned(3, "e", 9, "bd", "s", 8);
        turned(3, "e", 9, "cb", "n", 6);
    }

    // "one that has not so many sits: it does not turn, and keeps them"
    static void terms1HutsThatHaveNotSoManyLegsSit() {
        String[] events = {"a", "b", "c", "d"};
        for (int turn = 0; turn < 4; turn++) {
            turned(0, "n", turn, events[turn], "nesw".substring(turn, turn + 1), 0);
            turned(2, "n", turn, events[turn], "nwse".substring(turn, turn + 1), 0);
            turned(0, "n", 30, events[turn], "nesw".substring(turn, turn + 1), 30 - turn);
            if (turn > 0) {
                turned(0, "n", turn - 1, events[turn], "n", turn - 1);
                turned(2, "n", turn - 1, events[turn], "n", turn - 1);
                turned(3, "e", turn - 1, events[turn], "e", turn - 1);
                turned(0, "n", 0, events[turn], "n", 0);
            }
        }
        turned(0, "n", 2, "dc", "s", 0);
        turned(0, "n", 2, "cd", "s", 0);
        turned(0, "n", 4, "ddb", "n", 0);
    }

    // each HUT by itself: one sits, the others do not
    static void terms1EachHutTurnsByItself() {
        HenHuts x = spelling("nesw", "1213");
        x.hut(1, 1, 1);
        happen(x, "a");
        dueHut("by one", x, 0, "e", 8);
        dueHut("it sat", x, 1, "e", 1);
        dueHut("by one", x, 2, "w", 8);
        dueHut("by three", x, 3, "s", 6);
    }

    // "THUNDER turns all HUTS by two, whatever their KIND and LEGS"
    static void terms1ThunderTurnsAllHutsByTwo() {
        for (int kind = 0; kind < 4; kind++) {
            for (int legs : new int[] {0, 1, 2, 30}) {
                turned(kind, "n", legs, "*", "s", legs);
                turned(kind, "e", legs, "*", "w", legs);
                turned(kind, "s", legs, "*", "n", legs);
                turned(kind, "w", legs, "*", "e", legs);
                turned(kind, "w", legs, "**", "w", legs);
            }
        }
        HenHuts x = looking("neswn");
        happen(x, "*");
        due("all five", x.told(4), number("swnes"));
    }

    // "A NIGHT gives each all its LEGS again"
    static void terms1NightsGiveAllLegsAgain() {
        turned(0, "n", 9, "dd.", "s", 9);
        turned(0, "n", 3, "d.", "w", 3);
        turned(0, "n", 30, "ddd.", "e", 30);
        turned(0, "n", 3, "d.d", "s", 0);
        turned(0, "n", 0, ".", "n", 0);
        turned(0, "n", 0, ".b", "n", 0);
        turned(0, "w", 5, "..", "w", 5);
        HenHuts x = spelling("nnnnn", "11111");
        for (int hut = 0; hut < 5; hut++) {
            x.hut(hut, 1, 10 + hut);
        }
        happen(x, "aa");
        for (int hut = 0; hut < 5; hut++) {
            dueHut("each is tired", x, hut, "s", 8 + hut);
        }
        happen(x, ".");
        for (int hut = 0; hut < 5; hut++) {
            dueHut("each has all", x, hut, "s", 10 + hut);
        }
    }
}

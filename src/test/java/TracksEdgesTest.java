/** Edges of the second half of part 4: SIGHTS, TRACKS, STORMS, NINETY, IMAGES, what is told (promises 26 to 34). */
public final class TracksEdgesTest extends Edges {
    private static final String DOTS = "............................................................";

    public static void main(String[] args) throws IllegalAccessException {
        runAll(TracksEdgesTest.class);
    }

    private static HenHuts fullOfSights() {
        HenHuts x = busy();
        for (int i = 2; i < 6; i++) {
            x.seen(2, i, 0);
        }
        return x;
    }

    // ---- seen, forget

    // "UNKNOWN: the HUT"
    static void promise26HutsThatThereAreNot() {
        refusedAll("seen", (x, hut) -> x.seen(hut, 0, 0), UNKNOWN, -1, 4, 5, LEAST, MOST);
        HenHuts x = looking("nnnnn");
        due("the first of five", x.seen(0, 0, 0), 1);
        due("the last of five", x.seen(4, 0, 0), 2);
        due("a sixth", x.seen(5, 0, 0), UNKNOWN);
    }

    // "behind so many EVENTS (0 to 30)", whatever is on the PAD
    static void promise26EventsGoFrom0To30() {
        HenHuts x = new HenHuts();
        due("0", x.seen(0, 0, 0), 1);
        due("30, with nothing on the PAD", x.seen(0, 30, 0), 2);
        write(x, "0");
        due("30, with a FAULT on the PAD", x.seen(0, 30, 0), 3);
        refusedAll("seen, EVENTS", (y, events) -> y.seen(0, events, 0), OUTSIDE, -1, 31, 60, LEAST, MOST);
    }

    // "LOOKED a way"
    static void promise26WaysGoFrom0To3() {
        HenHuts x = new HenHuts();
        due("north", x.seen(0, 0, 0), 1);
        due("west", x.seen(1, 0, 3), 2);
        due("the way is kept", x.looked(1), 8);
        refusedAll("seen, the way", (y, way) -> y.seen(0, 0, way), OUTSIDE, -1, 4, LEAST, MOST);
    }

    // "SIGHTS, 6 at most"; "FULL"
    static void promise26SixSightsAreTheMost() {
        HenHuts x = looking("nnnnn");
        for (int i = 1; i <= 6; i++) {
            due("SIGHT " + i, x.seen(i % 5, 0, 1), i);
        }
        due("a seventh", x.seen(0, 0, 1), FULL);
        due("told(3)", x.told(3), 6);
        refused("a seventh", TracksEdgesTest::fullOfSights, y -> y.seen(0, 0, 0), FULL);
        x.forget();
        due("the first again", x.seen(0, 0, 1), 1);
    }

    // "A SIGHT more": one like another is one more, too
    static void promise26LikeSightsAreTwo() {
        HenHuts x = new HenHuts();
        due("one", x.seen(0, 0, 1), 1);
        due("like it", x.seen(0, 0, 1), 2);
        due("they do not quarrel", x.tracks(0), 16);
    }

    // "SIGHTS go: how many there were"
    static void promise27TellsHowManyThereWere() {
        HenHuts x = new HenHuts();
        due("of none", x.forget(), 0);
        x.seen(0, 0, 1);
        due("of one", x.forget(), 1);
        due("of none again", x.forget(), 0);
        due("any way again", x.looked(0), 15);
        for (int i = 0; i < 6; i++) {
            x.seen(0, i, 1);
        }
        due("of six", x.forget(), 6);
        due("told(3)", x.told(3), 0);
    }

    // SIGHTS go, and nothing else
    static void promise27NothingElseGoes() {
        HenHuts x = busy();
        x.forget();
        x.seen(3, 0, 2);
        x.seen(0, 1, 1);
        dueSame("seen again", x, busy());
    }

    // ---- tracks, looked

    /** Numbers of LOOKS that fit: how many, the least. */
    private static void tracks(HenHuts x, String evening, int many, int least) {
        pad(x, evening);
        due("how many by " + evening, x.tracks(0), many);
        due("the least by " + evening, x.tracks(1), least);
    }

    /** The ways of HUT 0, as letters, by one SIGHT of it. */
    private static void ways(HenHuts x, String evening, int events, String way, String first) {
        x.forget();
        x.seen(0, events, WAYS.indexOf(way));
        pad(x, evening);
        int bits = 0;
        for (int i = 0; i < first.length(); i++) {
            bits |= 1 << WAYS.indexOf(first.charAt(i));
        }
        due("ways by " + evening + ", " + events + ", " + way, x.looked(0), bits);
    }

    // "how many (what = 0), the least (1 ..)"; "OUTSIDE"
    static void promise28WhatIs0Or1() {
        refusedAll("tracks", HenHuts::tracks, OUTSIDE, -1, 2, LEAST, MOST);
        changesNothing("tracks(0)", Edges::busy, x -> x.tracks(0));
        changesNothing("tracks(1)", Edges::busy, x -> x.tracks(1));
    }

    // no SIGHT: any number may have been; the most that there are
    static void promise28WithoutSightsAllFit() {
        int many = 1;
        for (int n = 1; n <= 5; n++) {
            many *= 4;
            tracks(looking("wwwww".substring(0, n)), "", many, 0);
            tracks(looking("wwwww".substring(0, n)), "*.0n", many, 0);
        }
    }

    // "NO: there is a FAULT (1), or some WORD is not known", with or without SIGHTS
    static void promise28FaultsAndWordsThatAreNotKnown() {
        for (String text : new String[] {"0", "4n", "g", "b", "aaab", "0123", "e0e*.c"}) {
            refused("tracks(0) of " + text, () -> busy(text), x -> x.tracks(0), NO);
            refused("tracks(1) of " + text, () -> busy(text), x -> x.tracks(1), NO);
        }
        HenHuts x = spelling("n", "1");
        pad(x, "f");
        due("no SIGHT", x.tracks(0), NO);
        pad(x, "a0e");
        due("a side is no WORD", x.tracks(0), 4);
    }

    // "(a SIGHT behind more EVENTS than there are does not hold)"; "NONE"
    static void promise28SightsBehindMoreEventsThanThereAre() {
        for (int events : new int[] {0, 1, 29, 30}) {
            HenHuts x = looking("nn");
            x.seen(1, events, 2);
            tracks(x, DOTS.substring(0, events), 4, 8);
            tracks(x, DOTS.substring(0, events + 1), 4, 8);
            if (events > 0) {
                tracks(x, DOTS.substring(0, events - 1), 0, NONE);
                due("HUT 0", x.looked(0), 0);
                due("HUT 1", x.looked(1), 0);
            }
        }
    }

    // "behind so many EVENTS": 0 is ahead of all; a knock of two signs is one
    static void promise28BehindSoManyEvents() {
        HenHuts x = looking("n");
        ways(x, "**", 0, "n", "n");
        ways(x, "**", 1, "n", "s");
        ways(x, "**", 2, "n", "n");
        ways(x, "0n0n*", 2, "e", "e");
        ways(x, "0n0n*", 3, "e", "w");
        ways(x, "0n0n*", 4, "e", "");
        ways(x, DOTS.replace('.', '*'), 29, "s", "n");
        ways(x, DOTS.replace('.', '*'), 30, "s", "s");
        ways(x, DOTS.replace("..", "0e"), 30, "s", "s");
    }

    // "knocks are EVENTS, and let be": a wall is none
    static void promise28KnocksAreLetBe() {
        HenHuts x = looking("n");
        for (String knock : new String[] {"0n", "0e", "0s", "0w"}) {
            ways(x, knock, 1, "s", "s");
        }
    }

    // "It is not known how HUTS LOOKED ahead of the EVENING": now does not tell
    static void promise28HowTheyLookNowDoesNotTell() {
        for (String look : new String[] {"n", "e", "s", "w"}) {
            ways(spelling(look, "1"), "a", 1, "n", "w");
            ways(one(3, look, 9, "1"), "a", 1, "n", "nw");
        }
    }

    // turns come round, to the right and to the left
    static void promise28WaysComeRound() {
        String[] right = {"w", "n", "e", "s"};
        String[] left = {"e", "s", "w", "n"};
        for (int way = 0; way < 4; way++) {
            ways(spelling("n", "1"), "a", 1, WAYS.substring(way, way + 1), right[way]);
            ways(one(2, "n", 9, "1"), "a", 1, WAYS.substring(way, way + 1), left[way]);
            ways(one(1, "n", 9, "1"), "a", 1, WAYS.substring(way, way + 1), WAYS.substring(way, way + 1));
        }
        ways(spelling("n", "3"), "aaa", 3, "n", "w");
    }

    // KINDS as they are: an odd HUT may have come from several ways, or from none
    static void promise28OddHutsComeFromSeveral() {
        ways(one(3, "n", 9, "1"), "a", 1, "s", "es");
        ways(one(3, "n", 9, "1"), "a", 1, "e", "");
        ways(one(3, "n", 9, "2"), "a", 1, "e", "w");
        ways(one(3, "n", 9, "3", "1"), "ab", 2, "n", "en");
        HenHuts x = spelling("nn", "11");
        x.hut(0, 2, 3);
        x.hut(1, 2, 3);
        x.seen(0, 1, 2);
        x.seen(1, 1, 0);
        tracks(x, "a", 4, number("en"));
        due("HUT 0", x.looked(0), 6);
        due("HUT 1", x.looked(1), 9);
    }

    // "LEGS .. as they are": those of now; one that has not so many sits; a NIGHT gives all again
    static void promise28LegsAreAsTheyAreNow() {
        ways(one(0, "n", 2, "1"), "aaa", 3, "n", "s");
        ways(one(0, "n", 3, "1"), "aaa", 3, "n", "e");
        ways(one(0, "n", 0, "1"), "aaa", 3, "n", "n");
        ways(one(0, "n", 1, "1"), "a.a", 3, "n", "s");
        HenHuts x = one(0, "n", 3, "2");
        happen(x, "a");
        ways(x, "a", 1, "n", "n");
        ways(x, ".a", 2, "n", "s");
        ways(x, ".aa", 3, "n", "s");
    }

    // "from which all SIGHTS are so": all six; and none, if two of them quarrel
    static void promise28AllSightsAreSo() {
        HenHuts x = spelling("nn", "13");
        x.seen(0, 0, 3);
        x.seen(0, 1, 0);
        x.seen(0, 2, 2);
        x.seen(1, 0, 0);
        x.seen(1, 1, 3);
        tracks(x, "a*", 1, number("wn"));
        x.seen(1, 2, 1);
        tracks(x, "a*", 1, number("wn"));
        tracks(x, "*a", 0, NONE);
        HenHuts y = looking("nn");
        y.seen(1, 0, 3);
        tracks(y, "", 4, number("nw"));
        y.seen(1, 0, 2);
        tracks(y, "", 0, NONE);
        HenHuts z = looking("nn");
        z.seen(0, 0, 1);
        z.seen(1, 1, 1);
        tracks(z, "*", 1, number("ew"));
        z.seen(0, 1, 1);
        tracks(z, "*", 0, NONE);
    }

    // what was asked ahead does not count
    static void promise28AskedAgainAndOtherwise() {
        HenHuts x = looking("nn");
        x.seen(1, 0, 3);
        tracks(x, "", 4, 12);
        x.seen(1, 0, 2);
        tracks(x, "", 0, NONE);
        x.forget();
        tracks(x, "", 16, 0);
        x.seen(0, 0, 2);
        tracks(x, "", 4, 2);
        x.forget();
        x.seen(1, 0, 1);
        tracks(x, "", 4, 4);
    }

    // each of six places is looked at: the last one alone quarrels
    static void promise28TheLastSightCounts() {
        HenHuts x = looking("nnnnn");
        for (int hut = 0; hut < 5; hut++) {
            x.seen(hut, 0, 3);
        }
        tracks(x, "", 1, 1023);
        x.seen(4, 0, 2);
        tracks(x, "", 0, NONE);
    }

    // "UNKNOWN; NO, likewise"
    static void promise29HutsFaultsAndWords() {
        refusedAll("looked", HenHuts::looked, UNKNOWN, -1, 4, 5, LEAST, MOST);
        for (String text : new String[] {"0", "4n", "g", "b", "aaab"}) {
            refused("looked(0) of " + text, () -> busy(text), x -> x.looked(0), NO);
            refused("looked(3) of " + text, () -> busy(text), x -> x.looked(3), NO);
        }
        changesNothing("looked(0)", Edges::busy, x -> x.looked(0));
    }

    // "Ways that a HUT may have LOOKED first, as bits": all, one, none
    static void promise29WaysAreBits() {
        HenHuts x = looking("nnnnn");
        for (int hut = 0; hut < 5; hut++) {
            due("any", x.looked(hut), 15);
        }
        for (int way = 0; way < 4; way++) {
            x.forget();
            x.seen(4, 0, way);
            due("one", x.looked(4), 1 << way);
            due("of another HUT any", x.looked(0), 15);
        }
        x.seen(4, 0, 0);
        due("none", x.looked(4), 0);
        due("of another HUT none either", x.looked(0), 0);
    }

    // ---- storm

    private static void storm(HenHuts x, String way, int c, int m, long upper, long lower) {
        String call = "to the " + way + " by " + c + " tenths behind " + m;
        due(call + ", the upper", x.storm(0, WAYS.indexOf(way), c, m, 0), upper);
        due(call + ", the lower", x.storm(0, WAYS.indexOf(way), c, m, 1), lower);
    }

    // "UNKNOWN; OUTSIDE", with GONE
    static void promise30NumbersThatThereAreNot() {
        refusedAll("storm, the HUT", (x, hut) -> x.storm(hut, 0, 1, 1, 0), GONE - 1, -1, 4, 5, LEAST, MOST);
        refusedAll("storm, the way", (x, way) -> x.storm(0, way, 1, 1, 0), GONE - 2, -1, 4, LEAST, MOST);
        refusedAll("storm, c", (x, c) -> x.storm(0, 0, c, 1, 0), GONE - 2, -1, 11, LEAST, MOST);
        refusedAll("storm, m", (x, m) -> x.storm(0, 0, 1, m, 0), GONE - 2, -1, 16, LEAST, MOST);
        refusedAll("storm, the part", (x, part) -> x.storm(0, 0, 1, 1, part), GONE - 2, -1, 2, LEAST, MOST);
        changesNothing("storm", Edges::busy, x -> x.storm(0, 0, 3, 3, 1));
        due("the last HUT of five", looking("nnnnw").storm(4, 3, 10, 14, 0), 1);
    }

    // "behind m evenings (0 to 15)"
    static void promise30EveningsGoFrom0To15() {
        HenHuts x = looking("n");
        storm(x, "n", 1, 0, 1, 1);
        storm(x, "s", 1, 0, 0, 1);
        storm(x, "n", 1, 1, 9, 10);
        storm(x, "s", 1, 1, 1, 10);
        // 5 to the 15th is 30517578125, 4 to the 15th 1073741824, 2 to the 15th 32768
        storm(x, "n", 1, 15, 30517578125L + 1073741824L, 61035156250L);
        storm(x, "s", 1, 15, 30517578125L - 1073741824L, 61035156250L);
        storm(x, "n", 9, 15, 30517578125L - 1073741824L, 61035156250L);
        storm(x, "s", 3, 15, 30517578125L - 32768, 61035156250L);
        storm(x, "n", 1, 14, 6103515625L + 268435456L, 12207031250L);
    }

    // "c tenths (0 to 10)"
    static void promise30TenthsGoFrom0To10() {
        HenHuts x = looking("n");
        for (int m = 0; m <= 15; m++) {
            storm(x, "n", 0, m, 1, 1);
            storm(x, "s", 0, m, 0, 1);
            storm(x, "n", 10, m, 1 - m % 2, 1);
            storm(x, "s", 10, m, m % 2, 1);
        }
        for (int m = 1; m <= 15; m++) {
            storm(x, "n", 5, m, 1, 2);
            storm(x, "s", 5, m, 1, 2);
        }
        // by two evenings: none or two of them
        long[] upper = {1, 41, 17, 29, 13, 1, 13, 29, 17, 41, 1};
        long[] lower = {1, 50, 25, 50, 25, 2, 25, 50, 25, 50, 1};
        for (int c = 0; c <= 10; c++) {
            storm(x, "n", c, 2, upper[c], lower[c]);
            storm(x, "s", c, 2, lower[c] - upper[c], lower[c] == upper[c] ? 1 : lower[c]);
        }
    }

    // the ways that can be come round; the others never are
    static void promise30WaysComeRound() {
        String[] across = {"s", "w", "n", "e"};
        for (int look = 0; look < 4; look++) {
            HenHuts x = looking(WAYS.substring(look, look + 1));
            for (int way = 0; way < 4; way++) {
                String letter = WAYS.substring(way, way + 1);
                long upper = look == way ? 29 : letter.equals(across[look]) ? 21 : 0;
                storm(x, letter, 3, 2, upper, upper == 0 ? 1 : 50);
            }
        }
    }

    // THUNDER turns all, whatever their KIND and LEGS; each HUT by how it LOOKS now
    static void promise30KindsAndLegsDoNotMatter() {
        for (int kind = 0; kind < 4; kind++) {
            storm(one(kind, "w", 0, "1"), "e", 10, 1, 1, 1);
        }
        HenHuts x = looking("nes");
        due("HUT 0", x.storm(0, 2, 10, 1, 0), 1);
        due("HUT 1", x.storm(1, 3, 10, 1, 0), 1);
        due("HUT 2", x.storm(2, 0, 10, 1, 0), 1);
    }

    // ---- ninety

    // "a seed (0 to 9999) and m (1 to 99)"; "OUTSIDE"
    static void promise31NumbersThatThereAreNot() {
        refusedAll("ninety, the seed", (x, seed) -> x.ninety(seed, 1, 0), OUTSIDE, -1, 10000, LEAST, MOST);
        refusedAll("ninety, m", (x, m) -> x.ninety(0, m, 0), OUTSIDE, 0, 100, -1, LEAST, MOST);
        refusedAll("ninety, what", (x, what) -> x.ninety(0, 1, what), OUTSIDE, -1, 3, LEAST, MOST);
    }

    // "Nothing is DONE in fact"
    static void promise31NothingIsDoneInFact() {
        for (int what = 0; what < 3; what++) {
            int asked = what;
            changesNothing("ninety(5, 99, " + what + ")", Edges::busy, x -> x.ninety(5, 99, asked));
        }
    }

    /** All six WORDS turn it by one, so each evening one is said that does. */
    private static HenHuts everyEvening(int legs) {
        return one(0, "n", legs, "1", "1", "1", "1", "1", "1");
    }

    private static void ninety(HenHuts x, int seed, int m, int turns, int sat) {
        due("turns by " + seed + ", " + m, x.ninety(seed, m, 0), turns);
        due("sat by " + seed + ", " + m, x.ninety(seed, m, 2), sat);
    }

    // "a NIGHT behind every fifth evening": the fifth is still tired, the sixth is not
    static void promise31NightsComeBehindEveryFifthEvening() {
        HenHuts x = everyEvening(3);
        int[] m = {1, 3, 4, 5, 6, 8, 9, 10, 11, 95, 96, 98, 99};
        int[] turns = {1, 3, 3, 3, 4, 6, 6, 6, 7, 57, 58, 60, 60};
        for (int i = 0; i < m.length; i++) {
            for (int seed : new int[] {0, 1, 4373, 9999}) {
                ninety(x, seed, m[i], turns[i], m[i] - turns[i]);
            }
        }
        ninety(everyEvening(0), 7, 99, 0, 99);
        ninety(everyEvening(5), 7, 99, 99, 0);
        ninety(everyEvening(4), 7, 99, 80, 19);
        HenHuts y = everyEvening(3);
        happen(y, "aa");
        ninety(y, 0, 4, 1, 3);
        ninety(y, 0, 5, 1, 4);
        ninety(y, 0, 6, 2, 4);
        ninety(y, 0, 10, 4, 6);
    }

    // "how often a HUT sat that should have turned": each HUT each time; not those that do not heed, nor by none
    static void promise31WhoSat() {
        HenHuts x = spelling("nnnnn", "11110", "11110", "11110", "11110", "11110", "11110");
        for (int hut = 0; hut < 5; hut++) {
            x.hut(hut, 1, 0);
        }
        ninety(x, 0, 1, 0, 4);
        ninety(x, 0, 99, 0, 396);
        x.hut(0, 2, 1);
        ninety(x, 0, 1, 0, 3);
        x.hut(1, 2, 3);
        ninety(x, 0, 1, 0, 2);
        x.hut(1, 0, 1);
        ninety(x, 0, 1, 0, 3);
        x.hut(2, 2, 2);
        ninety(x, 0, 1, 0, 3);
        ninety(spelling("n", "0", "0", "0", "0", "0", "0"), 0, 99, 0, 0);
        ninety(looking("nn"), 0, 99, 0, 0);
    }

    // "x becomes (75 x and 74) left over by 65537; WORD x left over by 6 is said, if it is known"
    static void promise31WordsByDraws() {
        // the first x of these: 12, 25, 74, 87, 100, 149: WORDS a to f, without THUNDER
        int[] seeds = {873, 1747, 0, 874, 1748, 1};
        for (int word = 0; word < 6; word++) {
            HenHuts x = looking("n");
            learn(x, word, "1");
            for (int i = 0; i < 6; i++) {
                due("WORD " + word + " by " + seeds[i], x.ninety(seeds[i], 1, 0), i == word ? 1 : 0);
                due("LOOKS by " + seeds[i], x.ninety(seeds[i], 1, 1), i == word ? 1 : 0);
            }
        }
        // the last seed: 749999, less 11 times 65537, is 29092: WORD e
        HenHuts x = spelling("n", "0", "0", "0", "0", "3", "0");
        due("WORD e by the last seed", x.ninety(9999, 1, 1), 3);
    }

    // x goes on: by the seed 0 it is 74, 5624, 28652, 51790: WORDS c, c, c, e, without THUNDER
    static void promise31DrawsGoOn() {
        HenHuts x = spelling("n", "0", "0", "1", "0", "2", "0");
        int[] turns = {1, 2, 3, 5};
        int[] looks = {1, 2, 3, 1};
        for (int m = 1; m <= 4; m++) {
            due("turns behind " + m, x.ninety(0, m, 0), turns[m - 1]);
            due("LOOKS behind " + m, x.ninety(0, m, 1), looks[m - 1]);
        }
    }

    // "then THUNDER, if x by 6 (cut) left over by 10 is 0"
    static void promise31ThunderByDraws() {
        HenHuts x = looking("nesw");
        // 4373: 364, by 6 it is 60; 5242: 2, by 6 it is 0; 6119: 240, by 6 it is 40
        for (int seed : new int[] {4373, 5242, 6119}) {
            due("THUNDER by " + seed, x.ninety(seed, 1, 1), number("swne"));
            due("it is no turn", x.ninety(seed, 1, 0), 0);
            due("none sits by it", x.ninety(seed, 1, 2), 0);
        }
        // 3: 299, by 6 it is 49; 3496: 126, by 6 it is 21; 3499: 351, by 6 it is 58; 0: 74, by 6 it is 12
        for (int seed : new int[] {3, 3496, 3499, 0}) {
            due("no THUNDER by " + seed, x.ninety(seed, 1, 1), number("nesw"));
        }
        HenHuts y = one(0, "n", 9, "0", "0", "0", "0", "1", "0");
        due("WORD e and THUNDER", y.ninety(4373, 1, 1), 3);
        due("a turn by the WORD", y.ninety(4373, 1, 0), 1);
    }

    // "the number of LOOKS then", of all HUTS; ways come round
    static void promise31LooksAreANumberOfAllHuts() {
        HenHuts x = spelling("wwwww", "01230", "01230", "01230", "01230", "01230", "01230");
        due("of five", x.ninety(0, 1, 1), number("wnesw"));
        due("of five, twice", x.ninety(0, 2, 1), number("wewew"));
        HenHuts y = everyEvening(5);
        y.hut(0, 2, 2);
        due("to the left", y.ninety(0, 1, 1), 3);
    }

    // ---- image, restore

    // "an IMAGE (0, 1): 1. OUTSIDE"
    static void promise32ImagesAre0And1() {
        HenHuts x = new HenHuts();
        due("image(0)", x.image(0), 1);
        due("image(1)", x.image(1), 1);
        due("image(0) again", x.image(0), 1);
        refusedAll("image", HenHuts::image, OUTSIDE, -1, 2, LEAST, MOST);
    }

    // "All but the PAD is kept"
    static void promise32AllButThePadIsKept() {
        HenHuts x = busy("abc");
        x.image(0);
        x.huts(5);
        learn(x, 1, "33333");
        x.image(1);
        x.restore(0);
        x.restore(1);
        due("HUTS", x.told(1), 5);
        due("WORDS", x.told(2), 2);
        due("its turn", x.told(204), 3);
        due("the first IMAGE is as it was", x.restore(0), 1);
        due("HUTS", x.told(1), 4);
        due("WORDS", x.told(2), 17);
        due("SIGHTS", x.told(3), 2);
        due("LOOKS", x.told(4), number("ssns"));
        int[] legs = {11, 0, 27, 4};
        int[] most = {12, 0, 30, 5};
        int[] cells = {20, 22, 2, 24};
        for (int hut = 0; hut < 4; hut++) {
            int at = 10 * (1 + hut);
            due("LEGS now", x.told(at + 1), legs[hut]);
            due("LEGS at most", x.told(at + 2), most[hut]);
            due("KIND", x.told(at + 3), hut);
            due("CELL", x.told(at + 4), cells[hut]);
            due("WORD a", x.told(100 + hut), "1231".charAt(hut) - '0');
            due("WORD e", x.told(500 + hut), "3012".charAt(hut) - '0');
        }
        due("the PAD of now", x.told(0), 0);
        write(x, "..");
        due("the SIGHT of HUT 3", x.looked(3), 4);
        due("the SIGHT of HUT 0", x.looked(0), 2);
    }

    /** Five HUTS, six WORDS, six SIGHTS that do not quarrel, kept in an IMAGE. */
    private static HenHuts full(int image) {
        HenHuts x = spelling("wwwww", "12312", "23123", "31231", "12121", "13131", "32323");
        for (int hut = 0; hut < 5; hut++) {
            x.hut(hut, 1, 20 + hut);
            x.hut(hut, 2, 3);
            x.hut(hut, 3, 24 - hut);
            x.seen(hut % 4, 25 + hut, 1);
        }
        happen(x, "ac");
        x.seen(4, 30, 2);
        x.image(image);
        return x;
    }

    // all places taken: five HUTS, six WORDS, six SIGHTS, to the last
    static void promise32AFullWoodIsKept() {
        for (int n = 0; n < 2; n++) {
            due("six SIGHTS", full(n).told(3), 6);
            HenHuts x = full(n);
            x.huts(5);
            due("restore(" + n + ")", x.restore(n), 1);
            due("LOOKS of the last HUT", x.told(50), 2);
            due("LEGS of the last HUT", x.told(51), 21);
            due("LEGS at most of the last HUT", x.told(52), 24);
            due("KIND of the last HUT", x.told(53), 3);
            due("CELL of the last HUT", x.told(54), 20);
            due("the turn of the last HUT by the last WORD", x.told(604), 3);
            dueSame("restored", x, full(n));
            HenHuts y = full(n);
            y.huts(5);
            for (int i = 0; i < 6; i++) {
                y.seen(0, 3, 0);
                learn(y, i, "00000");
            }
            y.restore(n);
            write(y, DOTS.substring(0, 29));
            due("the last SIGHT, behind too few EVENTS", y.tracks(0), 0);
            y.say('.');
            due("the last SIGHT", y.looked(4), 4);
            y.wipe();
            dueSame("restored over other SIGHTS and WORDS", y, full(n));
        }
    }

    // it is kept, and nothing is changed by that
    static void promise32NothingIsChangedByIt() {
        HenHuts x = busy();
        x.image(1);
        HenHuts y = busy();
        y.image(1);
        y.image(1);
        dueSame("kept twice", x, y);
        HenHuts z = busy();
        z.image(0);
        due("signs", z.told(0), 5);
        due("it can be DONE", z.done(), 4);
    }

    // an IMAGE is of then: what comes later does not change it; the last that was kept counts
    static void promise32ImagesAreOfThen() {
        HenHuts x = spelling("nn", "12");
        x.seen(0, 0, 1);
        x.image(0);
        x.hut(0, 0, 3);
        x.hut(0, 1, 20);
        x.hut(0, 2, 2);
        x.hut(0, 3, 9);
        learn(x, 0, "33");
        x.forget();
        x.seen(1, 1, 2);
        x.seen(1, 1, 2);
        x.image(1);
        x.restore(0);
        due("LOOKS", x.told(10), 0);
        due("LEGS now", x.told(11), 9);
        due("LEGS at most", x.told(12), 9);
        due("KIND", x.told(13), 0);
        due("CELL", x.told(14), 0);
        due("its turn", x.told(100), 1);
        due("SIGHTS", x.told(3), 1);
        due("the SIGHT", x.looked(0), 2);
        x.restore(1);
        due("LOOKS", x.told(10), 3);
        due("LEGS", x.told(11), 20);
        due("its turn", x.told(101), 3);
        due("SIGHTS", x.told(3), 2);
        x.image(0);
        x.huts(1);
        x.restore(0);
        due("the last that was kept", x.told(10), 3);
    }

    // "OUTSIDE; STATE: it was not"
    static void promise33ImagesThatWereNotKept() {
        refusedAll("restore", HenHuts::restore, OUTSIDE, -1, 2, LEAST, MOST);
        refused("restore(0), IMAGE 1 alone is kept", Edges::busy, x -> x.restore(0), STATE);
        HenHuts x = new HenHuts();
        due("restore(0)", x.restore(0), STATE);
        due("restore(1)", x.restore(1), STATE);
        x.image(0);
        due("restore(1), IMAGE 0 alone is kept", x.restore(1), STATE);
        due("restore(0)", x.restore(0), 1);
        x.image(1);
        due("restore(1)", x.restore(1), 1);
    }

    // "It is as it was when it was kept", as often as it is asked; the PAD is as it is now
    static void promise33AsItWas() {
        HenHuts x = busy();
        x.image(0);
        x.huts(1);
        x.wipe();
        write(x, "0n");
        due("restore(0)", x.restore(0), 1);
        due("signs", x.told(0), 2);
        due("they are the same", x.judge(1), 2);
        x.hut(0, 0, 0);
        due("now it can be", x.judge(0), NONE);
        x.unword(0);
        x.forget();
        due("restore(0) again", x.restore(0), 1);
        HenHuts y = busy("0n");
        y.image(0);
        dueSame("restored", x, y);
    }

    // ---- told

    // "0 signs, 1 HUTS, 2 WORDS that are known (bits), 3 SIGHTS, 4 the number of LOOKS": none, and all
    static void promise34TheFirstFive() {
        HenHuts x = looking("n");
        int[] least = {0, 1, 0, 0, 0};
        for (int what = 0; what < 5; what++) {
            due("told(" + what + ")", x.told(what), least[what]);
        }
        HenHuts y = spelling("wwwww", "00000", "00000", "00000", "00000", "00000", "00000");
        write(y, DOTS);
        for (int i = 0; i < 6; i++) {
            y.seen(0, 0, 0);
        }
        int[] most = {60, 5, 63, 6, 1023};
        for (int what = 0; what < 5; what++) {
            due("told(" + what + ")", y.told(what), most[what]);
        }
        for (int word = 0; word < 6; word++) {
            HenHuts one = looking("n");
            learn(one, word, "1");
            due("the bit of WORD " + word, one.told(2), 1 << word);
        }
    }

    // "10 times (1 and a HUT): and 0 LOOKS .. 4 CELL"; "OUTSIDE"
    static void promise34OfAHut() {
        for (int n = 1; n <= 5; n++) {
            HenHuts x = looking("wwwww".substring(0, n));
            for (int hut = 0; hut < n; hut++) {
                x.hut(hut, 1, 30 - hut);
                x.hut(hut, 2, hut % 4);
                x.hut(hut, 3, 24 - hut);
                int at = 10 * (1 + hut);
                due("LOOKS", x.told(at), 3);
                due("LEGS now", x.told(at + 1), 30 - hut);
                due("LEGS at most", x.told(at + 2), 30 - hut);
                due("KIND", x.told(at + 3), hut % 4);
                due("CELL", x.told(at + 4), 24 - hut);
                for (int what = 5; what < 10; what++) {
                    due("told(" + (at + what) + ")", x.told(at + what), OUTSIDE);
                }
            }
            for (int what = 10 * (1 + n); what < 100; what++) {
                due("told(" + what + ") by " + n, x.told(what), OUTSIDE);
            }
        }
        HenHuts tired = one(0, "n", 7, "2");
        happen(tired, "a");
        due("LEGS now", tired.told(11), 5);
        due("LEGS at most", tired.told(12), 7);
    }

    // "100 times (1 and a WORD that is known) and a HUT: its turn"
    static void promise34OfAWord() {
        HenHuts x = spelling("nnn", "012", "123", "230", "301", "010", "321");
        String[] spells = {"012", "123", "230", "301", "010", "321"};
        for (int word = 0; word < 6; word++) {
            int at = 100 * (1 + word);
            for (int hut = 0; hut < 3; hut++) {
                due("told(" + (at + hut) + ")", x.told(at + hut), spells[word].charAt(hut) - '0');
            }
            for (int beyond : new int[] {3, 4, 5, 10, 99}) {
                due("told(" + (at + beyond) + ")", x.told(at + beyond), OUTSIDE);
            }
        }
        x.hut(0, 2, 2);
        x.hut(1, 2, 1);
        due("whatever the KIND", x.told(202), 3);
        due("whatever the KIND", x.told(200), 1);
        due("whatever the KIND", x.told(201), 2);
        x.unword(2);
        due("a WORD that is not known", x.told(300), OUTSIDE);
        due("the last HUT of five", spelling("nnnnn", "00003").told(104), 3);
        due("a sixth", spelling("nnnnn", "00003").told(105), OUTSIDE);
    }

    // "OUTSIDE"
    static void promise34NumbersThatThereAreNot() {
        refusedAll("told", HenHuts::told, OUTSIDE, -1, 5, 6, 7, 8, 9, 15, 19, 25, 45, 49, 50, 54, 60, 99, 104, 110, 200,
            300, 400, 504, 600, 700, 1000, -10, -11, -100, -101, LEAST, MOST);
        changesNothing("told(4)", Edges::busy, x -> x.told(4));
        changesNothing("told(100)", Edges::busy, x -> x.told(100));
    }
}

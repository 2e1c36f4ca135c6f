import java.math.BigInteger;
import java.util.ArrayList;
import java.util.Arrays;
import java.util.HashMap;
import java.util.HashSet;
import java.util.List;
import java.util.Map;
import java.util.Random;
import java.util.Set;

/** Long runs by draws (of fixed seeds), each answer against a slow model that goes other ways than the class. */
public final class RandomRunsTest {
    private static final int RUNS = 700;
    private static final int STEPS = 150;
    // what later calls answer is free
    private static final int MOST_CALLS = 512;
    private static final int[] WILD = {Integer.MIN_VALUE, -1000, -7, -2, -1, 5, 6, 7, 8, 31, 32, 33, 61, 64, 99, 127,
        1023, 1024, 65536, 1 << 30, Integer.MAX_VALUE};

    private final Random random;
    private final HenHuts huts = new HenHuts();
    private final Model model = new Model();
    private final StringBuilder story = new StringBuilder();
    private int calls;
    private static int wrong = 0;
    private static final Map<String, int[]> ANSWERS = new HashMap<>();

    private RandomRunsTest(long seed) {
        random = new Random(seed);
    }

    public static void main(String[] args) {
        for (int seed = 0; seed < RUNS && wrong < 5; seed++) {
            new RandomRunsTest(seed).run();
        }
        for (String name : Model.FACE) {
            int[] counts = ANSWERS.getOrDefault(name, new int[2]);
            boolean refusable = !Model.NEVER_REFUSED.contains(name);
            if (counts[0] < 20 || refusable && counts[1] < 20) {
                wrong++;
                System.out.println("draws hardly tried " + name + ": " + counts[0] + ", " + counts[1]);
            }
        }
        System.out.println(wrong == 0 ? "the runs by draws are as the model" : wrong + " wrong in runs by draws");
        if (wrong != 0) {
            System.exit(1);
        }
    }

    private void run() {
        boolean dear = random.nextInt(12) == 0;
        if (random.nextInt(3) != 0) {
            call("huts", dear ? 5 : 1 + random.nextInt(4));
        }
        if (random.nextInt(3) != 0) {
            settle();
        }
        for (int i = 0; i < STEPS && wrong < 5; i++) {
            step(dear);
        }
    }

    /** Some variety from the start: most runs would reach it late, if ever. */
    private void settle() {
        for (int hut = 0; hut < model.n; hut++) {
            call("hut", hut, 0, random.nextInt(4));
            call("hut", hut, 1, random.nextInt(31));
            call("hut", hut, 2, random.nextInt(2) == 0 ? 0 : random.nextInt(4));
            call("hut", hut, 3, 5 * random.nextInt(3) + random.nextInt(3));
        }
        for (int i = random.nextInt(5); i >= 0; i--) {
            learn();
        }
    }

    private void step(boolean dear) {
        int draw = random.nextInt(100);
        if (draw < 6) {
            learn();
        } else if (draw < 14) {
            writeEvening();
        } else if (draw < 24) {
            call("hut", hut(), what(4), random.nextInt(5) == 0 ? number(31) : random.nextInt(4));
        } else if (draw < 27) {
            call("hut", hut(), 1, number(10));
        } else if (draw < 29) {
            call("hut", hut(), 3, number(25));
        } else if (draw < 62) {
            stepOfParts1And2();
        } else if (draw < 82) {
            stepOfPart3(dear);
        } else {
            stepOfPart4();
        }
    }

    private void learn() {
        call("wipe");
        for (int i = 0; i < model.n; i++) {
            call("say", '0' + (random.nextInt(3) == 0 ? 0 : random.nextInt(4)));
        }
        if (random.nextInt(8) == 0) {
            call("say", random.nextBoolean() ? '0' + random.nextInt(10) : 33 + random.nextInt(94));
        }
        call("fault", 0);
        call("word", number(6));
        call("told", 2);
    }

    private void writeEvening() {
        if (random.nextInt(5) != 0) {
            call("wipe");
        }
        int events = random.nextInt(random.nextInt(6) == 0 ? 40 : 9);
        for (int i = 0; i < events; i++) {
            int draw = random.nextInt(20);
            if (draw < 9) {
                int known = model.knownWord(random.nextInt(6));
                call("say", 'a' + (known < 0 || random.nextInt(30) == 0 ? random.nextInt(6) : known));
            } else if (draw < 12) {
                call("say", '*');
            } else if (draw < 14) {
                call("say", '.');
            } else if (draw < 19) {
                writeKnock();
            } else if (random.nextInt(4) == 0) {
                call("say", 33 + random.nextInt(94));
            }
        }
    }

    private void writeKnock() {
        int hut = random.nextInt(random.nextInt(15) == 0 ? 5 : model.n);
        // mostly a knock that is let in, or EVENINGS would never be DONE
        long look = random.nextInt(5) == 0 ? random.nextInt(4) : model.answer("behind", new int[] {hut, 0});
        call("say", '0' + hut);
        if (random.nextInt(40) != 0) {
            call("say", "nesw".charAt((int) (look < 0 ? random.nextInt(4) : look)));
        }
    }

    private void stepOfParts1And2() {
        switch (random.nextInt(20)) {
            case 0:
                if (random.nextInt(12) == 0) {
                    call("huts", number(6));
                }
                break;
            case 1:
                call("say", random.nextInt(3) == 0 ? number(128) : 33 + random.nextInt(94));
                break;
            case 2:
                call("wipe");
                break;
            case 3:
                call("fault", what(2));
                break;
            case 4:
                call("word", number(6));
                break;
            case 5:
                if (random.nextInt(3) == 0) {
                    call("unword", number(6));
                }
                break;
            case 6: case 7: case 8: case 9: case 10:
                call("judge", what(4));
                break;
            case 11: case 12: case 13: case 14:
                call("behind", hut(), what(2));
                break;
            case 15:
                call("done");
                break;
            case 16: case 17:
                call("state", hut(), what(2));
                break;
            default:
                call("bare", number(6), hut());
                break;
        }
    }

    private void stepOfPart3(boolean dear) {
        int set = random.nextInt(25) == 0 ? number(64) : random.nextInt(1 << model.n);
        int looks = random.nextInt(25) == 0 ? number(2000) : random.nextInt(1 << 2 * model.n);
        switch (random.nextInt(10)) {
            case 0:
                call("reached");
                break;
            case 1:
                call("can", looks);
                break;
            case 2: case 3:
                call("spelled", set, looks, -1);
                break;
            case 4:
                call("spelled", set, looks, random.nextInt(4) == 0 ? number(9) : random.nextInt(5) - 2);
                break;
            case 5:
                call("tired", set, looks);
                break;
            case 6: case 7:
                if (random.nextInt(dear ? 4 : 2) == 0) {
                    call("able", set, looks);
                }
                break;
            case 8:
                call("without", number(6), set, looks);
                break;
            default:
                if (random.nextInt(dear ? 6 : 1) == 0) {
                    call("round", set, sides(set));
                }
                break;
        }
    }

    private int sides(int set) {
        int sides = 0;
        for (int i = 0; i < Integer.bitCount(set); i++) {
            sides = 10 * sides + random.nextInt(4);
        }
        int draw = random.nextInt(12);
        return draw == 0 ? number(50000) : draw == 1 ? sides + 4 : draw == 2 ? -sides : sides;
    }

    private void stepOfPart4() {
        int known = model.known();
        switch (random.nextInt(19)) {
            case 0: case 1:
                int words = random.nextInt(8) == 0 ? number(80) : known & random.nextInt(64);
                int otherWords = random.nextInt(8) == 0 ? number(80) : known & random.nextInt(64);
                call("two", hut(), what(4), what(4), words == 0 ? known : words, otherWords, what(2));
                break;
            case 2:
                call("pairs");
                break;
            case 3:
                call("danced", 1 + what(2));
                break;
            case 4:
                call("elected");
                break;
            case 5:
                call("majority", what(4));
                break;
            case 6: case 7:
                call("seen", hut(), random.nextInt(10) == 0 ? number(32) : random.nextInt(5), what(4));
                break;
            case 8:
                if (random.nextInt(2) == 0) {
                    call("forget");
                }
                break;
            case 9: case 10:
                call("tracks", what(2));
                break;
            case 11: case 12:
                call("looked", hut());
                break;
            case 13:
                call("storm", hut(), what(4), number(11), number(16), what(2));
                break;
            case 14: case 15:
                call("ninety", number(10000), 1 + number(99), what(3));
                break;
            case 16:
                call("image", what(2));
                break;
            case 17:
                if (random.nextInt(4) == 0) {
                    call("restore", what(2));
                }
                break;
            default:
                call("told", random.nextInt(3) == 0 ? random.nextInt(60)
                    : random.nextInt(2) == 0 ? random.nextInt(6) : 100 * (1 + number(6)) + hut());
                break;
        }
    }

    private int hut() {
        return random.nextInt(30) == 0 ? wild() : random.nextInt(12) == 0 ? model.n : random.nextInt(model.n);
    }

    private int what(int bound) {
        return number(bound);
    }

    private int number(int bound) {
        return random.nextInt(25) == 0 ? wild() : random.nextInt(25) == 0 ? bound : random.nextInt(bound);
    }

    private int wild() {
        return WILD[random.nextInt(WILD.length)];
    }

    private void call(String name, int... a) {
        if (calls == MOST_CALLS) {
            return;
        }
        calls++;
        long want = model.answer(name, a);
        story.append(name).append(Arrays.toString(a));
        long got = Face.answer(huts, name, a);
        story.append(" ").append(got).append("\n");
        boolean refused = got < 0 && got != HenHuts.NONE;
        ANSWERS.computeIfAbsent(name, key -> new int[2])[refused ? 1 : 0]++;
        if (got != want) {
            wrong++;
            System.out.println(story + "due was " + want);
        }
    }

    /** Calls of the class by name. */
    private static final class Face {
        static long answer(HenHuts x, String name, int[] a) {
            switch (name) {
                case "huts": return x.huts(a[0]);
                case "hut": return x.hut(a[0], a[1], a[2]);
                case "say": return x.say(a[0]);
                case "wipe": return x.wipe();
                case "fault": return x.fault(a[0]);
                case "word": return x.word(a[0]);
                case "unword": return x.unword(a[0]);
                case "judge": return x.judge(a[0]);
                case "behind": return x.behind(a[0], a[1]);
                case "done": return x.done();
                case "state": return x.state(a[0], a[1]);
                case "bare": return x.bare(a[0], a[1]);
                case "reached": return x.reached();
                case "can": return x.can(a[0]);
                case "spelled": return x.spelled(a[0], a[1], a[2]);
                case "tired": return x.tired(a[0], a[1]);
                case "able": return x.able(a[0], a[1]);
                case "without": return x.without(a[0], a[1], a[2]);
                case "round": return x.round(a[0], a[1]);
                case "two": return x.two(a[0], a[1], a[2], a[3], a[4], a[5]);
                case "pairs": return x.pairs();
                case "danced": return x.danced(a[0]);
                case "elected": return x.elected();
                case "majority": return x.majority(a[0]);
                case "seen": return x.seen(a[0], a[1], a[2]);
                case "forget": return x.forget();
                case "tracks": return x.tracks(a[0]);
                case "looked": return x.looked(a[0]);
                case "storm": return x.storm(a[0], a[1], a[2], a[3], a[4]);
                case "ninety": return x.ninety(a[0], a[1], a[2]);
                case "image": return x.image(a[0]);
                case "restore": return x.restore(a[0]);
                case "told": return x.told(a[0]);
                default: throw new IllegalArgumentException(name);
            }
        }
    }

    private static final class Hut {
        int look;
        int legs = 9;
        int most = 9;
        int kind;
        int cell;

        Hut copy() {
            Hut copy = new Hut();
            copy.look = look;
            copy.legs = legs;
            copy.most = most;
            copy.kind = kind;
            copy.cell = cell;
            return copy;
        }

        /** Turns by so many quarters; -1: it sits. */
        int heed(int quarters, boolean tireless) {
            boolean heeds = kind == 0 || kind == 2 || kind == 3 && (look == 1 || look == 3);
            if (!heeds) {
                return 0;
            }
            if (!tireless && legs < quarters) {
                return -1;
            }
            for (int i = 0; i < quarters; i++) {
                look = kind == 2 ? (look + 3) % 4 : (look + 1) % 4;
            }
            if (!tireless) {
                legs -= quarters;
            }
            return quarters;
        }
    }

    private static final class Model {
        static final List<String> FACE = List.of("huts", "hut", "say", "wipe", "fault", "word", "unword", "judge",
            "behind", "done", "state", "bare", "reached", "can", "spelled", "tired", "able", "without", "round", "two",
            "pairs", "danced", "elected", "majority", "seen", "forget", "tracks", "looked", "storm", "ninety", "image",
            "restore", "told");
        static final Set<String> NEVER_REFUSED = Set.of("wipe", "reached", "pairs", "elected", "forget");

        int n = 3;
        Hut[] huts = planted(3);
        int[][] words = new int[6][];
        List<int[]> sights = new ArrayList<>();
        String pad = "";
        final Model[] images = new Model[2];
        int quarters;
        int sat;
        int letIn;
        int events;
        int why;

        static Hut[] planted(int n) {
            Hut[] huts = new Hut[n];
            for (int i = 0; i < n; i++) {
                huts[i] = new Hut();
                huts[i].cell = i;
            }
            return huts;
        }

        static Hut[] copy(Hut[] huts) {
            Hut[] copies = new Hut[huts.length];
            for (int i = 0; i < huts.length; i++) {
                copies[i] = huts[i].copy();
            }
            return copies;
        }

        int known() {
            int known = 0;
            for (int w = 0; w < 6; w++) {
                known |= words[w] == null ? 0 : 1 << w;
            }
            return known;
        }

        int knownWord(int from) {
            for (int i = 0; i < 6; i++) {
                if (words[(from + i) % 6] != null) {
                    return (from + i) % 6;
                }
            }
            return -1;
        }

        boolean isHut(int hut) {
            return hut >= 0 && hut < n;
        }

        boolean isWord(int word) {
            return word >= 0 && word < 6 && words[word] != null;
        }

        boolean isSet(int set) {
            return set >= 0 && set < 1 << n;
        }

        boolean isLooks(int looks) {
            return looks >= 0 && looks < Math.pow(4, n);
        }

        int looks(Hut[] of) {
            int looks = 0;
            for (int i = n - 1; i >= 0; i--) {
                looks = 4 * looks + of[i].look;
            }
            return looks;
        }

        int pads(String form) {
            for (int length = 0; length <= pad.length(); length++) {
                if (!java.util.regex.Pattern.compile(form).matcher(pad.substring(0, length)).matches()
                        && !hitsEnd(form, pad.substring(0, length))) {
                    return length - 1;
                }
            }
            return pad.matches(form) ? -6 : pad.length();
        }

        boolean hitsEnd(String form, String text) {
            java.util.regex.Matcher matcher = java.util.regex.Pattern.compile(form).matcher(text);
            return !matcher.matches() && matcher.hitEnd();
        }

        int spellFault() {
            return pads("[0-3]{" + n + "}");
        }

        int eveningFault() {
            return pads("([a-f*.]|[0-" + (n - 1) + "][nesw])*");
        }

        List<String> eventList() {
            List<String> list = new ArrayList<>();
            java.util.regex.Matcher matcher = java.util.regex.Pattern.compile("[0-4].|.").matcher(pad);
            while (matcher.find()) {
                list.add(matcher.group());
            }
            return list;
        }

        void happen(Hut[] of, String event) {
            if (event.equals("*")) {
                for (Hut hut : of) {
                    hut.look = (hut.look + 2) % 4;
                }
            } else if (event.equals(".")) {
                for (Hut hut : of) {
                    hut.legs = hut.most;
                }
            } else if (event.length() == 1) {
                int[] word = words[event.charAt(0) - 'a'];
                for (int i = 0; i < n; i++) {
                    int turned = of[i].heed(word[i], false);
                    sat += turned < 0 ? 1 : 0;
                    quarters += Math.max(0, turned);
                }
            }
        }

        Hut[] play() {
            quarters = 0;
            sat = 0;
            letIn = 0;
            events = 0;
            why = 0;
            Hut[] then = copy(huts);
            for (String event : eventList()) {
                if (event.length() == 2) {
                    if (then[event.charAt(0) - '0'].look != "nesw".indexOf(event.charAt(1))) {
                        why = 2;
                        return then;
                    }
                    letIn++;
                } else if (Character.isLetter(event.charAt(0)) && words[event.charAt(0) - 'a'] == null) {
                    why = 1;
                    return then;
                }
                happen(then, event);
                events++;
            }
            return then;
        }

        int hear(int looks, int word) {
            int then = 0;
            for (int i = n - 1; i >= 0; i--) {
                then = 4 * then + heeded(looks, word, i).look;
            }
            return then;
        }

        int cost(int looks, int word) {
            int cost = 0;
            for (int i = 0; i < n; i++) {
                Hut hut = huts[i].copy();
                hut.look = looks >> 2 * i & 3;
                cost += hut.heed(words[word][i], true);
            }
            return cost;
        }

        Hut heeded(int looks, int word, int i) {
            Hut hut = huts[i].copy();
            hut.look = looks >> 2 * i & 3;
            hut.heed(words[word][i], true);
            return hut;
        }

        boolean fits(int a, int b, int set) {
            for (int i = 0; i < n; i++) {
                if ((set >> i & 1) == 1 && (a >> 2 * i & 3) != (b >> 2 * i & 3)) {
                    return false;
                }
            }
            return true;
        }

        /** From each number of LOOKS the least cost to one of the goals, by going over all again and again. */
        int[] costs(boolean[] goal, int words, boolean byQuarters) {
            int[] costs = new int[goal.length];
            for (int i = 0; i < goal.length; i++) {
                costs[i] = goal[i] ? 0 : 1_000_000;
            }
            boolean changed = true;
            int[][] then = new int[6][goal.length];
            int[][] cost = new int[6][goal.length];
            for (int w = 0; w < 6; w++) {
                for (int i = 0; (words >> w & 1) == 1 && i < goal.length; i++) {
                    then[w][i] = hear(i, w);
                    cost[w][i] = byQuarters ? cost(i, w) : 1;
                }
            }
            while (changed) {
                changed = false;
                for (int i = 0; i < goal.length; i++) {
                    for (int w = 0; w < 6; w++) {
                        if ((words >> w & 1) == 1 && costs[then[w][i]] + cost[w][i] < costs[i]) {
                            costs[i] = costs[then[w][i]] + cost[w][i];
                            changed = true;
                        }
                    }
                }
            }
            return costs;
        }

        boolean[] goals(int set, int looks) {
            boolean[] goal = new boolean[1 << 2 * n];
            for (int i = 0; i < goal.length; i++) {
                goal[i] = fits(i, looks, set);
            }
            return goal;
        }

        int fromNow(int[] costs) {
            int cost = costs[looks(huts)];
            return cost >= 1_000_000 ? -6 : cost;
        }

        int spelled(int set, int looks, int i) {
            int[] costs = costs(goals(set, looks), known(), false);
            if (fromNow(costs) == -6 || i == -1) {
                return fromNow(costs);
            }
            int at = looks(huts);
            for (int k = 0; costs[at] > 0; k++) {
                for (int w = 0; w < 6; w++) {
                    if (words[w] != null && costs[hear(at, w)] == costs[at] - 1) {
                        if (k == i) {
                            return w;
                        }
                        at = hear(at, w);
                        break;
                    }
                }
            }
            return -6;
        }

        int able(int set, int looks) {
            for (int length = 0; length <= 5; length++) {
                if (isAble(huts, set, looks, length)) {
                    return length;
                }
            }
            return -6;
        }

        boolean isAble(Hut[] from, int set, int looks, int length) {
            if (length == 0) {
                return fits(looks(from), looks, set);
            }
            for (int w = 0; w < 6; w++) {
                if (words[w] != null) {
                    Hut[] then = copy(from);
                    for (int i = 0; i < n; i++) {
                        then[i].heed(words[w][i], false);
                    }
                    if (isAble(then, set, looks, length - 1)) {
                        return true;
                    }
                }
            }
            return false;
        }

        /** Each WORD and each knock as a step of its own. */
        int round(int set, int sides) {
            String digits = Integer.toString(sides);
            int size = Integer.bitCount(set);
            if (sides < 0 || !digits.matches("[0-3]+") || digits.length() > size && sides != 0) {
                return -2;
            }
            digits = "00000".substring(0, Math.max(0, size - digits.length())) + digits;
            int aim = 0;
            for (int i = 0, k = 0; i < n; i++) {
                if ((set >> i & 1) == 1) {
                    aim |= (digits.charAt(k++) - '0') << 2 * i;
                }
            }
            Set<Integer> been = new HashSet<>();
            List<Integer> now = List.of(looks(huts));
            been.addAll(now);
            for (int minutes = 0; !now.isEmpty(); minutes++) {
                List<Integer> next = new ArrayList<>();
                for (int at : now) {
                    if (at >> 10 == set) {
                        return minutes;
                    }
                    for (int then : roundSteps(at, set, aim)) {
                        if (been.add(then)) {
                            next.add(then);
                        }
                    }
                }
                now = next;
            }
            return -6;
        }

        List<Integer> roundSteps(int at, int set, int aim) {
            List<Integer> steps = new ArrayList<>();
            for (int w = 0; w < 6; w++) {
                if (words[w] != null) {
                    steps.add(hear(at & 1023, w) | at >> 10 << 10);
                }
            }
            for (int i = 0; i < n; i++) {
                if ((set >> i & 1) == 1 && (at >> 2 * i & 3) == (aim >> 2 * i & 3)) {
                    steps.add(at | 1024 << i);
                }
            }
            return steps;
        }

        boolean forces(int[] t, int player, int look, int turn, int length) {
            if (look == t[1 + player]) {
                return true;
            }
            if (look == t[2 - player] || length == 0) {
                return false;
            }
            for (int w = 0; w < 6; w++) {
                if ((t[3 + turn] >> w & 1) == 1) {
                    Hut hut = huts[t[0]].copy();
                    hut.look = look;
                    hut.heed(words[w][t[0]], true);
                    boolean forced = forces(t, player, hut.look, 1 - turn, length - 1);
                    if (forced == (turn == player)) {
                        return forced;
                    }
                }
            }
            return turn != player;
        }

        int two(int[] a) {
            if (!isHut(a[0])) {
                return -1;
            }
            boolean sides = a[1] >= 0 && a[1] < 4 && a[2] >= 0 && a[2] < 4 && a[1] != a[2];
            boolean sets = a[3] != 0 && (a[3] | known()) == known() && a[4] != 0 && (a[4] | known()) == known();
            if (!sides || !sets || a[5] < 0 || a[5] > 1) {
                return -2;
            }
            for (int length = 0; length < 10; length++) {
                for (int player = 0; player < 2; player++) {
                    if (forces(a, player, huts[a[0]].look, 0, length)) {
                        return a[5] == 0 ? player : length;
                    }
                }
            }
            return a[5] == 0 ? 2 : 0;
        }

        int hutSeenFrom(int i, int looks) {
            int look = looks >> 2 * i & 3;
            int row = huts[i].cell / 5;
            int column = huts[i].cell % 5;
            for (int far = 0; far < 5; far++) {
                row += look == 0 ? -1 : look == 2 ? 1 : 0;
                column += look == 3 ? -1 : look == 1 ? 1 : 0;
                for (int k = 0; k < n; k++) {
                    if (huts[k].cell / 5 == row && huts[k].cell % 5 == column) {
                        return k;
                    }
                }
            }
            return -1;
        }

        int pairs(int looks) {
            int pairs = 0;
            for (int i = 0; i < n; i++) {
                int other = hutSeenFrom(i, looks);
                if (other > i && hutSeenFrom(other, looks) == i) {
                    pairs++;
                }
            }
            return pairs;
        }

        int danced(int many) {
            boolean[] goal = new boolean[1 << 2 * n];
            for (int i = 0; i < goal.length; i++) {
                goal[i] = pairs(i) >= many;
            }
            return fromNow(costs(goal, known(), false));
        }

        int votes(int looks, int way) {
            int votes = 0;
            for (int i = 0; i < n; i++) {
                votes += (looks >> 2 * i & 3) == way ? 1 : 0;
            }
            return votes;
        }

        int majority(int way) {
            boolean[] goal = new boolean[1 << 2 * n];
            for (int i = 0; i < goal.length; i++) {
                goal[i] = votes(i, way) > n - votes(i, way);
            }
            return fromNow(costs(goal, known(), false));
        }

        int elected() {
            int best = 3;
            for (int way = 3; way >= 0; way--) {
                best = votes(looks(huts), way) >= votes(looks(huts), best) ? way : best;
            }
            return best;
        }

        /** The numbers that fit; null: NO. */
        List<Integer> tracks() {
            if (eveningFault() != -6) {
                return null;
            }
            List<String> list = eventList();
            for (String event : list) {
                if (Character.isLetter(event.charAt(0)) && words[event.charAt(0) - 'a'] == null) {
                    return null;
                }
            }
            List<Integer> fit = new ArrayList<>();
            for (int looks = 0; looks < 1 << 2 * n; looks++) {
                if (isTrack(looks, list)) {
                    fit.add(looks);
                }
            }
            return fit;
        }

        boolean isTrack(int looks, List<String> list) {
            Hut[] then = copy(huts);
            for (int i = 0; i < n; i++) {
                then[i].look = looks >> 2 * i & 3;
            }
            int held = 0;
            for (int k = 0; k <= list.size(); k++) {
                for (int[] sight : sights) {
                    held += sight[1] == k && then[sight[0]].look == sight[2] ? 1 : 0;
                }
                if (k < list.size()) {
                    happen(then, list.get(k));
                }
            }
            return held == sights.size();
        }

        int looked(int hut) {
            int ways = 0;
            for (int looks : tracks()) {
                ways |= 1 << (looks >> 2 * hut & 3);
            }
            return ways;
        }

        long storm(int hut, int way, int c, int m, int part) {
            BigInteger upper = BigInteger.ZERO;
            BigInteger choose = BigInteger.ONE;
            for (int k = 0; k <= m; k++) {
                if ((huts[hut].look + 2 * k) % 4 == way) {
                    upper = upper.add(choose.multiply(BigInteger.valueOf(c).pow(k))
                        .multiply(BigInteger.valueOf(10 - c).pow(m - k)));
                }
                choose = choose.multiply(BigInteger.valueOf(m - k)).divide(BigInteger.valueOf(k + 1));
            }
            BigInteger lower = BigInteger.TEN.pow(m);
            BigInteger shared = upper.gcd(lower);
            return (part == 0 ? upper : lower).divide(shared).longValueExact();
        }

        int ninety(int seed, int m, int what) {
            quarters = 0;
            sat = 0;
            Hut[] then = copy(huts);
            long x = seed;
            for (int i = 0; i < m; i++) {
                x = (75 * x + 74) % 65537;
                if (isWord((int) (x % 6))) {
                    happen(then, "" + (char) ('a' + x % 6));
                }
                if ((x / 6) % 10 == 0) {
                    happen(then, "*");
                }
                if (i % 5 == 4) {
                    happen(then, ".");
                }
            }
            return what == 0 ? quarters : what == 1 ? looks(then) : sat;
        }

        void take(Model other) {
            n = other.n;
            huts = copy(other.huts);
            words = other.words.clone();
            sights = new ArrayList<>(other.sights);
        }

        int told(int what) {
            if (what == 0) {
                return pad.length();
            }
            if (what >= 1 && what <= 4) {
                return what == 1 ? n : what == 2 ? known() : what == 3 ? sights.size() : looks(huts);
            }
            for (int i = 0; i < n; i++) {
                int[] all = {huts[i].look, huts[i].legs, huts[i].most, huts[i].kind, huts[i].cell};
                if (what >= 10 * (1 + i) && what < 10 * (1 + i) + 5) {
                    return all[what - 10 * (1 + i)];
                }
                for (int w = 0; w < 6; w++) {
                    if (words[w] != null && what == 100 * (1 + w) + i) {
                        return words[w][i];
                    }
                }
            }
            return -2;
        }

        int hut(int i, int what, int v) {
            if (!isHut(i)) {
                return -1;
            }
            if (what < 0 || what > 3 || v < 0 || v > new int[] {3, 30, 3, 24}[what]) {
                return -2;
            }
            Hut hut = huts[i];
            int was = new int[] {hut.look, hut.most, hut.kind, hut.cell}[what];
            for (int k = 0; what == 3 && k < n; k++) {
                if (k != i && huts[k].cell == v) {
                    return -3;
                }
            }
            hut.look = what == 0 ? v : hut.look;
            hut.legs = what == 1 ? v : hut.legs;
            hut.most = what == 1 ? v : hut.most;
            hut.kind = what == 2 ? v : hut.kind;
            hut.cell = what == 3 ? v : hut.cell;
            return was;
        }

        int judge(int what) {
            if (what < 0 || what > 3) {
                return -2;
            }
            if (eveningFault() != -6) {
                return -5;
            }
            play();
            if (what < 2) {
                return why == 0 ? -6 : what == 0 ? events : why;
            }
            return why != 0 ? -3 : what == 2 ? quarters : letIn;
        }

        long answer(String name, int[] a) {
            switch (name) {
                case "huts":
                    if (a[0] < 1 || a[0] > 5) {
                        return -2;
                    }
                    int was = n;
                    n = a[0];
                    huts = planted(n);
                    words = new int[6][];
                    sights.clear();
                    return was;
                case "hut":
                    return hut(a[0], a[1], a[2]);
                case "say":
                    if (a[0] < 33 || a[0] > 126) {
                        return -2;
                    }
                    if (pad.length() == 60) {
                        return -4;
                    }
                    pad += (char) a[0];
                    return pad.length();
                case "wipe":
                    int signs = pad.length();
                    pad = "";
                    return signs;
                case "fault":
                    return a[0] == 0 ? spellFault() : a[0] == 1 ? eveningFault() : -2;
                case "word":
                    if (a[0] < 0 || a[0] > 5) {
                        return -1;
                    }
                    if (spellFault() != -6) {
                        return -5;
                    }
                    words[a[0]] = pad.chars().map(c -> c - '0').toArray();
                    pad = "";
                    return Integer.bitCount(known());
                case "unword":
                    if (!isWord(a[0])) {
                        return -1;
                    }
                    words[a[0]] = null;
                    return Integer.bitCount(known());
                case "judge":
                    return judge(a[0]);
                case "behind":
                    if (!isHut(a[0])) {
                        return -1;
                    }
                    if (a[1] < 0 || a[1] > 1) {
                        return -2;
                    }
                    if (judge(2) < 0) {
                        return judge(2);
                    }
                    return a[1] == 0 ? play()[a[0]].look : play()[a[0]].legs;
                case "done":
                    if (judge(2) < 0) {
                        return judge(2);
                    }
                    huts = play();
                    pad = "";
                    return events;
                case "state":
                    return !isHut(a[0]) ? -1 : a[1] == 0 ? huts[a[0]].look : a[1] == 1 ? huts[a[0]].legs : -2;
                case "bare":
                    if (!isWord(a[0]) || !isHut(a[1])) {
                        return -1;
                    }
                    return huts[a[1]].copy().heed(words[a[0]][a[1]], false) > 0 ? 0 : 1;
                default:
                    return laterAnswer(name, a);
            }
        }

        long laterAnswer(String name, int[] a) {
            switch (name) {
                case "reached":
                    return closure().size();
                case "can":
                    return !isLooks(a[0]) ? -2 : closure().contains(a[0]) ? 1 : 0;
                case "spelled":
                    return !isSet(a[0]) || !isLooks(a[1]) ? -2 : spelled(a[0], a[1], a[2]);
                case "tired":
                    return !isSet(a[0]) || !isLooks(a[1]) ? -2 : fromNow(costs(goals(a[0], a[1]), known(), true));
                case "able":
                    return !isSet(a[0]) || !isLooks(a[1]) ? -2 : able(a[0], a[1]);
                case "without":
                    if (!isWord(a[0])) {
                        return -1;
                    }
                    if (!isSet(a[1]) || !isLooks(a[2])) {
                        return -2;
                    }
                    int with = fromNow(costs(goals(a[1], a[2]), known(), false));
                    int without = fromNow(costs(goals(a[1], a[2]), known() - (1 << a[0]), false));
                    return with == -6 || without == -6 ? -6 : without - with;
                case "round":
                    return !isSet(a[0]) ? -2 : round(a[0], a[1]);
                case "two":
                    return two(a);
                case "pairs":
                    return pairs(looks(huts));
                case "danced":
                    return a[0] < 1 || a[0] > 2 ? -2 : danced(a[0]);
                case "elected":
                    return elected();
                case "majority":
                    return a[0] < 0 || a[0] > 3 ? -2 : majority(a[0]);
                case "seen":
                    if (!isHut(a[0])) {
                        return -1;
                    }
                    if (a[1] < 0 || a[1] > 30 || a[2] < 0 || a[2] > 3) {
                        return -2;
                    }
                    return sights.size() == 6 ? -4 : sights.add(a.clone()) ? sights.size() : 0;
                case "forget":
                    int forgotten = sights.size();
                    sights.clear();
                    return forgotten;
                case "tracks":
                    if (a[0] < 0 || a[0] > 1) {
                        return -2;
                    }
                    List<Integer> fit = tracks();
                    return fit == null ? -5 : a[0] == 0 ? fit.size() : fit.isEmpty() ? -6 : fit.get(0);
                case "looked":
                    return !isHut(a[0]) ? -1 : tracks() == null ? -5 : looked(a[0]);
                case "storm":
                    if (!isHut(a[0])) {
                        return -1000000000000000001L;
                    }
                    boolean told = a[1] >= 0 && a[1] < 4 && a[2] >= 0 && a[2] <= 10 && a[3] >= 0 && a[3] <= 15;
                    return !told || a[4] < 0 || a[4] > 1 ? -1000000000000000002L : storm(a[0], a[1], a[2], a[3], a[4]);
                case "ninety":
                    boolean drawn = a[0] >= 0 && a[0] <= 9999 && a[1] >= 1 && a[1] <= 99 && a[2] >= 0 && a[2] <= 2;
                    return !drawn ? -2 : ninety(a[0], a[1], a[2]);
                case "image":
                    if (a[0] < 0 || a[0] > 1) {
                        return -2;
                    }
                    images[a[0]] = new Model();
                    images[a[0]].take(this);
                    return 1;
                case "restore":
                    if (a[0] < 0 || a[0] > 1) {
                        return -2;
                    }
                    if (images[a[0]] == null) {
                        return -3;
                    }
                    take(images[a[0]]);
                    return 1;
                case "told":
                    return told(a[0]);
                default:
                    throw new IllegalArgumentException(name);
            }
        }

        Set<Integer> closure() {
            Set<Integer> all = new HashSet<>();
            List<Integer> open = new ArrayList<>(List.of(looks(huts)));
            while (!open.isEmpty()) {
                int at = open.remove(open.size() - 1);
                if (all.add(at)) {
                    for (int w = 0; w < 6; w++) {
                        if (words[w] != null) {
                            open.add(hear(at, w));
                        }
                    }
                }
            }
            return all;
        }
    }
}

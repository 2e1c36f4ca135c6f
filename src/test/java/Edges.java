import java.lang.reflect.InvocationTargetException;
import java.lang.reflect.Method;
import java.util.ArrayList;
import java.util.Arrays;
import java.util.Comparator;
import java.util.List;

/**
 * What the tests of edges share. A test is a static method whose name begins with the promise, or the part of the
 * terms, that its sentence stands in; the remark above it has the sentence.
 */
abstract class Edges {
    static final int UNKNOWN = -1, OUTSIDE = -2, STATE = -3, FULL = -4, NO = -5, NONE = -6;
    static final long GONE = -1000000000000000000L;
    static final int LEAST = Integer.MIN_VALUE, MOST = Integer.MAX_VALUE;
    static final String WAYS = "nesw";
    private static String test = "";
    private static int wrong = 0;
    private static int asked = 0;

    interface Making {
        HenHuts make();
    }

    interface Call {
        long on(HenHuts x);
    }

    interface NumberedCall {
        long on(HenHuts x, int number);
    }

    static void due(String call, long got, long want) {
        asked++;
        if (got != want) {
            wrong++;
            System.out.println(test + ": " + call + " answered " + got + ", due is " + want);
        }
    }

    /** Runs each test of a class, so that none is forgotten. */
    static void runAll(Class<?> tests) throws IllegalAccessException {
        Method[] methods = tests.getDeclaredMethods();
        Arrays.sort(methods, Comparator.comparing(Method::getName));
        int ran = 0;
        for (Method method : methods) {
            if (method.getName().matches("(promise\\d\\d|terms\\d?)[A-Z].*")) {
                test = method.getName();
                ran++;
                int askedBefore = asked;
                try {
                    method.invoke(null);
                } catch (InvocationTargetException thrown) {
                    wrong++;
                    System.out.println(test + " threw " + thrown.getCause());
                }
                if (asked == askedBefore) {
                    wrong++;
                    System.out.println(test + " asked nothing");
                }
            }
        }
        System.out.println(ran + " tests of edges, " + asked + " answers, " + wrong + " wrong");
        if (wrong != 0 || ran == 0) {
            System.exit(1);
        }
    }

    // ---- woods

    static void write(HenHuts x, String text) {
        for (int i = 0; i < text.length(); i++) {
            x.say(text.charAt(i));
        }
    }

    static void pad(HenHuts x, String text) {
        x.wipe();
        write(x, text);
    }

    static void learn(HenHuts x, int word, String spell) {
        pad(x, spell);
        if (x.word(word) < 1) {
            due("word(" + word + ") of " + spell, -1, 1);
        }
    }

    static void happen(HenHuts x, String evening) {
        pad(x, evening);
        if (x.done() < 0) {
            due("done() of " + evening, -1, 0);
        }
    }

    /** So many HUTS, LOOKS told as a text of n, e, s, w. */
    static HenHuts looking(String looks) {
        HenHuts x = new HenHuts();
        x.huts(looks.length());
        for (int i = 0; i < looks.length(); i++) {
            x.hut(i, 0, WAYS.indexOf(looks.charAt(i)));
        }
        return x;
    }

    /** HUTS that LOOK so and know the WORDS a, b and so on, by their SPELLS. */
    static HenHuts spelling(String looks, String... spells) {
        HenHuts x = looking(looks);
        for (int word = 0; word < spells.length; word++) {
            learn(x, word, spells[word]);
        }
        return x;
    }

    /** One HUT of a KIND that LOOKS so and has so many LEGS, with the WORDS a, b and so on. */
    static HenHuts one(int kind, String look, int legs, String... spells) {
        HenHuts x = spelling(look, spells);
        x.hut(0, 1, legs);
        x.hut(0, 2, kind);
        return x;
    }

    static void stand(HenHuts x, int... cells) {
        // first aside, so that no HUT is still on a CELL that another one is to have
        for (int hut = 0; hut < cells.length; hut++) {
            int aside = 0;
            while (aside < 25 && (isAmong(cells, aside) || x.hut(hut, 3, aside) < 0)) {
                aside++;
            }
        }
        for (int hut = 0; hut < cells.length; hut++) {
            if (x.hut(hut, 3, cells[hut]) < 0) {
                due("a free CELL " + cells[hut], STATE, 0);
            }
        }
    }

    private static boolean isAmong(int[] cells, int cell) {
        for (int one : cells) {
            if (one == cell) {
                return true;
            }
        }
        return false;
    }

    /** The number of LOOKS that a text of n, e, s, w tells. */
    static int number(String looks) {
        int number = 0;
        for (int hut = looks.length() - 1; hut >= 0; hut--) {
            number = 4 * number + WAYS.indexOf(looks.charAt(hut));
        }
        return number;
    }

    /**
     * A wood in which all that can be kept is other than at first: HUTS of all KINDS that LOOK s, s, n, s, tired ones,
     * the WORDS a and e, two SIGHTS, an IMAGE 1 of another wood (IMAGE 0 is not kept); and a text on the PAD.
     */
    static HenHuts busy(String text) {
        HenHuts x = spelling("nw", "12", "30");
        x.seen(1, 1, 3);
        x.image(1);
        x.huts(4);
        int[] looks = {1, 2, 3, 1};
        int[] legs = {12, 0, 30, 5};
        int[] cells = {20, 22, 2, 24};
        for (int hut = 0; hut < 4; hut++) {
            x.hut(hut, 0, looks[hut]);
            x.hut(hut, 1, legs[hut]);
            x.hut(hut, 2, hut);
            x.hut(hut, 3, cells[hut]);
        }
        learn(x, 0, "1231");
        learn(x, 4, "3012");
        happen(x, "a");
        x.seen(3, 0, 2);
        x.seen(0, 1, 1);
        write(x, text);
        return x;
    }

    /** An EVENING that can be. */
    static HenHuts busy() {
        return busy("e0e*.");
    }

    // ---- all that a wood tells

    /** A call that is refused: what it answers, and that it changed nothing. */
    static void refused(String call, Making from, Call made, long want) {
        HenHuts x = from.make();
        due(call, made.on(x), want);
        dueSame("behind " + call, x, from.make());
    }

    /** A call with a number of which none of these is taken, in a wood like any other. */
    static void refusedAll(String call, NumberedCall made, long want, int... numbers) {
        for (int number : numbers) {
            refused(call + " of " + number, Edges::busy, x -> made.on(x, number), want);
        }
    }

    /** A call that only asks changes nothing either, so it is looked at in the same way. */
    static void changesNothing(String call, Making from, Call made) {
        HenHuts x = from.make();
        long first = made.on(x);
        due(call + " again", made.on(x), first);
        dueSame("behind " + call, x, from.make());
    }

    static void dueSame(String when, HenHuts x, HenHuts y) {
        List<Long> got = all(x);
        List<Long> want = all(y);
        int unlike = Math.abs(got.size() - want.size());
        for (int i = 0; i < Math.min(got.size(), want.size()); i++) {
            unlike += got.get(i).equals(want.get(i)) ? 0 : 1;
        }
        due(when + " so many answers are other ones", unlike, 0);
    }

    /** Asks for all, and uses up the PAD and the wood by it. */
    private static List<Long> all(HenHuts x) {
        List<Long> all = new ArrayList<>();
        tell(x, all);
        all.add((long) x.fault(0));
        all.add((long) x.fault(1));
        all.add((long) x.tracks(0));
        all.add((long) x.tracks(1));
        // what is on the PAD shows only in what it does
        all.add((long) x.word(5));
        all.add((long) x.done());
        tell(x, all);
        pad(x, "..............................");
        tellSights(x, all);
        for (int n = 0; n < 2; n++) {
            all.add((long) x.restore(n));
            tell(x, all);
            tellSights(x, all);
        }
        return all;
    }

    private static void tell(HenHuts x, List<Long> all) {
        for (int what = 0; what < 5; what++) {
            all.add((long) x.told(what));
        }
        for (int hut = 0; hut < x.told(1); hut++) {
            for (int what = 0; what < 5; what++) {
                all.add((long) x.told(10 * (1 + hut) + what));
            }
            for (int word = 0; word < 6; word++) {
                all.add((long) x.told(100 * (1 + word) + hut));
            }
        }
    }

    private static void tellSights(HenHuts x, List<Long> all) {
        for (int hut = 0; hut < 5; hut++) {
            all.add((long) x.looked(hut));
        }
    }

    static void dueAtFirst(HenHuts x, int n) {
        due("told(1)", x.told(1), n);
        due("told(4)", x.told(4), 0);
        for (int hut = 0; hut < n; hut++) {
            int at = 10 * (1 + hut);
            due("LOOKS of " + hut, x.told(at), 0);
            due("LEGS now of " + hut, x.told(at + 1), 9);
            due("LEGS at most of " + hut, x.told(at + 2), 9);
            due("KIND of " + hut, x.told(at + 3), 0);
            due("CELL of " + hut, x.told(at + 4), hut);
        }
        due("no HUT more", x.state(n, 0), UNKNOWN);
    }

    /** How a HUT is now. */
    static void dueHut(String when, HenHuts x, int hut, String look, int legs) {
        due(when + ": it LOOKS", x.state(hut, 0), WAYS.indexOf(look));
        due(when + ": its LEGS", x.state(hut, 1), legs);
    }
}

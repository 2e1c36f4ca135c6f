import java.lang.management.ManagementFactory;
import java.lang.reflect.Constructor;
import java.lang.reflect.Field;
import java.lang.reflect.Method;
import java.lang.reflect.Modifier;
import java.nio.file.Files;
import java.nio.file.Path;
import java.util.ArrayList;
import java.util.HashSet;
import java.util.List;
import java.util.Set;
import java.util.TreeSet;
import java.util.regex.Matcher;
import java.util.regex.Pattern;

/** Those rules of LANGUAGE.md that can be seen by a look at the class and at its text, and the room that it takes. */
public final class LanguageTest {
    private static final String FACE = "int huts(int);int hut(int,int,int);int say(int);int wipe();int fault(int);"
        + "int word(int);int unword(int);int judge(int);int behind(int,int);int done();int state(int,int);"
        + "int bare(int,int);int reached();int can(int);int spelled(int,int,int);int tired(int,int);int able(int,int);"
        + "int without(int,int,int);int round(int,int);int two(int,int,int,int,int,int);int pairs();int danced(int);"
        + "int elected();int majority(int);int seen(int,int,int);int forget();int tracks(int);int looked(int);"
        + "long storm(int,int,int,int,int);int ninety(int,int,int);int image(int);int restore(int);int told(int)";
    private static final String[] RULED_OUT = {"\\bthrow\\b", "\\btry\\b", "\\bcatch\\b", "\\bsynchronized\\b",
        "\\bassert\\b", "::", "\\bprotected\\b", "\\bSystem\\.(?!arraycopy)", "\\bThread\\b", "\\bRandom\\b",
        "[a-z]Exact\\b", "(?m)^package\\b", "\\bstatic \\{", "while \\(true\\)", "for \\(;",
        "import (?!java\\.util\\.(Arrays|ArrayList|List|Iterator);)"};
    // 7.3 million fields and elements of four bytes each
    private static final long ROOM = 4L * 7_300_000;
    private static final Pattern HEAD = Pattern.compile("^( {4}| {8})[a-z][A-Za-z\\[\\] ]* ?[A-Za-z]+\\(.*\\) \\{$");
    private static int wrong = 0;

    private static void check(boolean so, String what) {
        if (!so) {
            wrong++;
            System.out.println("not so: " + what);
        }
    }

    public static void main(String[] args) throws Exception {
        String text = Files.readString(Path.of("src/main/java/HenHuts.java"));
        String code = text.replaceAll("(?s)/\\*.*?\\*/", "").replaceAll("//[^\n]*", "");
        face();
        members();
        for (String ruledOut : RULED_OUT) {
            check(!Pattern.compile(ruledOut).matcher(code).find(), "no " + ruledOut);
        }
        arrows(code);
        lengths(text);
        room();
        System.out.println(wrong == 0 ? "the rules that can be seen are kept" : wrong + " rules are not kept");
        if (wrong != 0) {
            System.exit(1);
        }
    }

    private static void face() {
        Set<String> found = new TreeSet<>();
        for (Method method : HenHuts.class.getDeclaredMethods()) {
            if (Modifier.isPublic(method.getModifiers())) {
                List<String> types = new ArrayList<>();
                for (Class<?> type : method.getParameterTypes()) {
                    types.add(type.getName());
                }
                check(!Modifier.isStatic(method.getModifiers()), method + " is of an object");
                found.add(method.getReturnType() + " " + method.getName() + "(" + String.join(",", types) + ")");
            } else {
                check(Modifier.isPrivate(method.getModifiers()) || method.isSynthetic(), method + " is private");
            }
        }
        check(found.equals(new TreeSet<>(List.of(FACE.split(";")))), "the face is the document's: " + found);
        check(HenHuts.class.getConstructors().length == 1, "one public constructor");
        check(Modifier.isPublic(HenHuts.class.getModifiers()), "a public class");
        check(Modifier.isFinal(HenHuts.class.getModifiers()), "a final class");
        Set<String> constants = Set.of("UNKNOWN", "OUTSIDE", "STATE", "FULL", "NO", "NONE", "GONE");
        for (Field field : HenHuts.class.getDeclaredFields()) {
            int kind = field.getModifiers();
            check(constants.contains(field.getName()) ? Modifier.isPublic(kind) && Modifier.isStatic(kind)
                : Modifier.isPrivate(kind) || field.isSynthetic(), field + " is as visible as told");
        }
    }

    private static void members() {
        Set<String> open = new HashSet<>();
        for (String method : FACE.split(";")) {
            open.add(method.replaceAll(".* |\\(.*", ""));
        }
        List<Class<?>> classes = new ArrayList<>(List.of(HenHuts.class.getDeclaredClasses()));
        check(classes.size() <= 13, "some twelve classes at most");
        for (Class<?> inside : classes) {
            check(Modifier.isStatic(inside.getModifiers()), inside + " is static");
            check(!Modifier.isPublic(inside.getModifiers()), inside + " is not public");
        }
        for (Method method : HenHuts.class.getDeclaredMethods()) {
            check(Modifier.isPublic(method.getModifiers()) || !open.contains(method.getName()),
                method + " has a name of its own");
        }
        classes.add(HenHuts.class);
        for (Class<?> one : classes) {
            int fields = 0;
            for (Field field : one.getDeclaredFields()) {
                boolean fixed = Modifier.isStatic(field.getModifiers());
                check(!fixed || Modifier.isFinal(field.getModifiers()), field + " is final");
                fields += fixed ? 0 : 1;
            }
            check(fields <= 22, one + " has some twenty fields at most");
            for (Method method : one.getDeclaredMethods()) {
                check(method.getParameterCount() <= 7, method + " has seven parameters at most");
            }
            for (Constructor<?> constructor : one.getDeclaredConstructors()) {
                check(constructor.getParameterCount() <= 7, constructor + " has seven parameters at most");
            }
        }
    }

    /** An arrow is that of a switch, or else it makes a lambda. */
    private static void arrows(String code) {
        for (String line : code.split("\n")) {
            check(!line.contains("->") || line.matches("\\s*(case\\b.*|default)\\s*->.*"), "no lambda: " + line);
        }
    }

    private static void lengths(String text) {
        String[] lines = text.split("\n");
        int start = -1;
        String indent = "";
        for (int i = 0; i < lines.length; i++) {
            Matcher head = HEAD.matcher(lines[i]);
            if (start < 0 && head.matches() && !lines[i].matches(" *(if|for|while|switch|else).*")) {
                start = i;
                indent = head.group(1);
            } else if (start >= 0 && lines[i].equals(indent + "}")) {
                check(i - start < 66, "the method at line " + (start + 1) + " has some sixty lines at most");
                start = -1;
            }
        }
    }

    /** The dearest calls, as many as an object may have, fit into the room of one run. */
    private static void room() {
        if (!(ManagementFactory.getThreadMXBean() instanceof com.sun.management.ThreadMXBean bean)
                || !bean.isThreadAllocatedMemorySupported()) {
            return;
        }
        dearestCalls();
        long before = bean.getCurrentThreadAllocatedBytes();
        dearestCalls();
        long taken = bean.getCurrentThreadAllocatedBytes() - before;
        check(taken <= ROOM, "512 calls take " + taken + " bytes, no more than " + ROOM);
    }

    private static void dearestCalls() {
        HenHuts x = new HenHuts();
        x.huts(5);
        String[] spells = {"10000", "01000", "00100", "00010", "00001", "12321"};
        for (int word = 0; word < 6; word++) {
            for (int i = 0; i < 5; i++) {
                x.say(spells[word].charAt(i));
            }
            x.word(word);
        }
        for (int i = 0; i < 42; i++) {
            x.reached();
            x.spelled(31, 1023 - i, 3);
            x.tired(31, 1023 - i);
            x.able(31, 1023 - i);
            x.without(5, 31, 1023 - i);
            x.round(31, 33333 - i % 4);
            x.danced(2);
            x.majority(3);
            x.tracks(0);
            x.ninety(i, 99, 2);
            x.image(i % 2);
        }
    }
}

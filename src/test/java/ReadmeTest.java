import java.io.IOException;
import java.lang.reflect.Method;
import java.lang.reflect.Modifier;
import java.nio.file.Files;
import java.nio.file.Path;
import java.util.ArrayList;
import java.util.Arrays;
import java.util.Comparator;
import java.util.HashMap;
import java.util.HashSet;
import java.util.List;
import java.util.Map;
import java.util.Random;
import java.util.Set;
import java.util.TreeMap;
import java.util.TreeSet;
import java.util.regex.Matcher;
import java.util.regex.Pattern;
import java.util.stream.Stream;

/** Does what README.md says, as it is written there: its commands, its examples, what its tables tell of each call. */
public final class ReadmeTest {
    private static final Pattern BLOCK = Pattern.compile("(?ms)^```(java|sh|text)\n(.*?)^```$");
    private static final Pattern CALL = Pattern.compile("wood\\.(\\w+)\\(([^)]*)\\);");
    private static final Pattern ANSWER = Pattern.compile("// (-?\\d+)\\b");
    private static final Pattern ROW = Pattern.compile("(?m)^\\| `(\\w+)\\(([^)]*)\\)` \\| (.*) \\|([^|]*)\\|$");
    private static final Pattern NAMED = Pattern.compile("`([A-Z]+)`");
    private static final Map<String, Integer> CONSTANTS = Map.of("UNKNOWN", -1, "OUTSIDE", -2, "STATE", -3,
        "FULL", -4, "NO", -5, "NONE", -6);
    private static final int NONE = -6;
    private static final int RUNS = 400;
    private static final int MOST_CALLS = 512;
    private static int wrong = 0;

    private static void check(boolean so, String what) {
        if (!so) {
            wrong++;
            System.out.println("not so: " + what);
        }
    }

    public static void main(String[] args) throws Exception {
        String text = Files.readString(Path.of("README.md"));
        Map<String, Method> face = face();
        commands(text);
        examples(text, face);
        constants(text);
        tables(text, face);
        check(text.contains("\n    .ci/run\n") && Files.isExecutable(Path.of(".ci/run")), ".ci/run is there, and runs");
        testsAreNamed(text);
        System.out.println(wrong == 0 ? "README.md is so" : wrong + " things in README.md are not so");
        if (wrong != 0) {
            System.exit(1);
        }
    }

    private static Map<String, Method> face() {
        Map<String, Method> face = new TreeMap<>();
        for (Method method : HenHuts.class.getDeclaredMethods()) {
            if (Modifier.isPublic(method.getModifiers())) {
                face.put(method.getName(), method);
            }
        }
        return face;
    }

    private static List<String> blocks(String text, String kind) {
        List<String> blocks = new ArrayList<>();
        Matcher matcher = BLOCK.matcher(text);
        while (matcher.find()) {
            if (matcher.group(1).equals(kind)) {
                blocks.add(matcher.group(2));
            }
        }
        return blocks;
    }

    // ---- commands

    /** In a copy, so that the project's own directory stays as it is. */
    private static void commands(String text) throws Exception {
        List<String> commands = blocks(text, "sh");
        List<String> printed = blocks(text, "text");
        check(commands.size() == 2 && printed.size() == 1, "two rows of commands, one text that is printed");
        Path copy = Files.createTempDirectory("readme");
        try {
            copyTree(Path.of("src"), copy.resolve("src"));
            Files.createDirectory(copy.resolve("build"));
            Files.writeString(copy.resolve("build/Try.java"), blocks(text, "java").get(0));
            check(run(copy, commands.get(0)).equals(printed.get(0) + "exit code 0"), "Try prints what is told");
            deleteTree(copy.resolve("build"));
            check(run(copy, commands.get(1)).endsWith("exit code 0"), "one test alone passes");
        } finally {
            deleteTree(copy);
        }
    }

    private static String run(Path where, String commands) throws IOException, InterruptedException {
        Process shell = new ProcessBuilder("sh", "-e", "-c", commands).directory(where.toFile())
            .redirectError(ProcessBuilder.Redirect.INHERIT).start();
        shell.getOutputStream().close();
        String printed = new String(shell.getInputStream().readAllBytes());
        return printed + "exit code " + shell.waitFor();
    }

    private static void copyTree(Path from, Path to) throws IOException {
        try (Stream<Path> paths = Files.walk(from)) {
            for (Path path : (Iterable<Path>) paths::iterator) {
                Files.copy(path, to.resolve(from.relativize(path).toString()));
            }
        }
    }

    private static void deleteTree(Path tree) throws IOException {
        try (Stream<Path> paths = Files.walk(tree)) {
            for (Path path : (Iterable<Path>) paths.sorted(Comparator.reverseOrder())::iterator) {
                Files.delete(path);
            }
        }
    }

    // ---- examples

    private static void examples(String text, Map<String, Method> face) throws Exception {
        HenHuts wood = null;
        Set<String> called = new HashSet<>();
        for (String block : blocks(text, "java")) {
            if (block.contains("class Try")) {
                continue;
            }
            for (String line : block.split("\n")) {
                if (line.contains("new HenHuts()")) {
                    wood = new HenHuts();
                } else {
                    called.addAll(example(line, wood, face));
                }
            }
        }
        check(called.size() >= 25, "examples of most calls: " + called);
    }

    /** A line of calls, with the last one's answer in the remark. */
    private static Set<String> example(String line, HenHuts wood, Map<String, Method> face) throws Exception {
        Set<String> called = new HashSet<>();
        Matcher answer = ANSWER.matcher(line);
        Matcher call = CALL.matcher(line);
        check(answer.find(), "an answer in: " + line);
        long last = Long.MAX_VALUE;
        while (call.find()) {
            Method method = face.get(call.group(1));
            check(method != null, "there is a call " + call.group(1));
            last = ask(wood, method, numbers(call.group(2)));
            called.add(call.group(1));
        }
        check(last == Long.parseLong(answer.group(1)), line.trim() + " but it answered " + last);
        for (String name : CONSTANTS.keySet()) {
            check(!line.matches(".*\\b" + name + "\\b.*") || last % HenHuts.GONE == CONSTANTS.get(name),
                "the answer is " + name + " in: " + line);
        }
        return called;
    }

    private static int[] numbers(String list) {
        if (list.isEmpty()) {
            return new int[0];
        }
        return Arrays.stream(list.split(", ")).mapToInt(ReadmeTest::number).toArray();
    }

    private static int number(String written) {
        return written.startsWith("'") ? written.charAt(1) : Integer.parseInt(written);
    }

    private static long ask(HenHuts wood, Method method, int... numbers) throws Exception {
        Object[] given = Arrays.stream(numbers).boxed().toArray();
        return ((Number) method.invoke(wood, given)).longValue();
    }

    // ---- tables

    private static void constants(String text) throws Exception {
        Matcher row = Pattern.compile("(?m)^\\| `([A-Z]+)` \\| (-\\d) \\|").matcher(text);
        StringBuilder order = new StringBuilder();
        while (row.find()) {
            check(HenHuts.class.getField(row.group(1)).getInt(null) == Integer.parseInt(row.group(2)), row.group());
            order.append(row.group(1)).append(' ');
        }
        check(order.toString().equals("UNKNOWN OUTSIDE NO STATE FULL "), "refusals in their order: " + order);
        check(text.contains("`NONE` (" + HenHuts.NONE + ")"), "NONE is told with its number");
    }

    private static void tables(String text, Map<String, Method> face) throws Exception {
        Map<String, Set<Integer>> answered = answersByDraws(face);
        Set<String> rows = new TreeSet<>();
        Matcher row = ROW.matcher(text);
        while (row.find()) {
            String name = row.group(1);
            Method method = face.get(name);
            check(method != null && rows.add(name), "one row of a call: " + name);
            int parameters = row.group(2).isEmpty() ? 0 : row.group(2).split(", ").length;
            check(method != null && method.getParameterCount() == parameters, "so many parameters: " + row.group());
            Set<Integer> told = named(row.group(4));
            check(!told.contains(NONE), "NONE is no refusal: " + name);
            check(told.containsAll(namedBut(row.group(3), "NONE")), "refusals that are told stand in the row: " + name);
            if (named(row.group(3)).contains(NONE)) {
                told.add(NONE);
            }
            check(told.equals(answered.get(name)), name + " tells " + told + " and answers " + answered.get(name));
        }
        check(rows.equals(face.keySet()), "each call has its row: " + rows);
    }

    private static Set<Integer> named(String text) {
        return namedBut(text, "");
    }

    private static Set<Integer> namedBut(String text, String but) {
        Set<Integer> named = new TreeSet<>();
        Matcher matcher = NAMED.matcher(text);
        while (matcher.find()) {
            if (CONSTANTS.containsKey(matcher.group(1)) && !matcher.group(1).equals(but)) {
                named.add(CONSTANTS.get(matcher.group(1)));
            }
        }
        return named;
    }

    /** Which answers below 0 each call has, in many woods by draws. */
    private static Map<String, Set<Integer>> answersByDraws(Map<String, Method> face) throws Exception {
        Map<String, Set<Integer>> answered = new HashMap<>();
        for (String name : face.keySet()) {
            answered.put(name, new TreeSet<>());
        }
        List<String> names = new ArrayList<>(face.keySet());
        Random random = new Random(12);
        for (int run = 0; run < RUNS; run++) {
            HenHuts wood = new HenHuts();
            int begun = run % 2 == 0 ? 0 : learn(wood, "123", "012");
            for (int calls = begun; calls < MOST_CALLS; calls++) {
                String name = random.nextInt(3) == 0 ? "say" : names.get(random.nextInt(names.size()));
                // mostly without these, or no text would ever grow long
                boolean ends = name.equals("wipe") || name.equals("huts") || name.equals("forget");
                if (ends && random.nextInt(4) != 0) {
                    continue;
                }
                long answer = ask(wood, face.get(name), draw(random, name, face.get(name).getParameterCount(), run));
                if (answer < 0) {
                    answered.get(name).add((int) (answer % HenHuts.GONE));
                }
            }
        }
        return answered;
    }

    /** Words a, b and so on; tells how many calls that took. */
    private static int learn(HenHuts wood, String... spells) {
        int calls = 0;
        for (int word = 0; word < spells.length; word++) {
            for (char sign : spells[word].toCharArray()) {
                wood.say(sign);
                calls++;
            }
            wood.word(word);
            calls++;
        }
        return calls;
    }

    private static int[] draw(Random random, String name, int count, int run) {
        if (name.equals("say")) {
            // runs of digits alone, of events alone, and of all signs
            String signs = run % 3 == 0 ? "0123" : run % 3 == 1 ? "abcdef*.*." : "0n1e2sw";
            int sign = signs.charAt(random.nextInt(signs.length()));
            return new int[] {random.nextInt(20) == 0 ? random.nextInt(140) : sign};
        }
        int[] numbers = new int[count];
        for (int i = 0; i < count; i++) {
            numbers[i] = random.nextInt(15) == 0 ? random.nextInt(1200) - 100 : random.nextInt(5) - random.nextInt(2);
        }
        return numbers;
    }

    private static void testsAreNamed(String text) throws IOException {
        try (Stream<Path> tests = Files.list(Path.of("src/test/java"))) {
            for (Path test : (Iterable<Path>) tests::iterator) {
                String name = test.getFileName().toString().replace(".java", "");
                check(text.contains("`" + name + "`"), "README.md names " + name);
            }
        }
    }
}

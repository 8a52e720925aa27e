import java.lang.reflect.InvocationTargetException;
import java.lang.reflect.Method;
import java.nio.file.Files;
import java.nio.file.Path;
import java.util.ArrayList;
import java.util.List;
import java.util.Map;
import java.util.Random;
import java.util.Set;
import java.util.TreeMap;
import java.util.TreeSet;
import java.util.regex.Matcher;
import java.util.regex.Pattern;
import java.util.stream.Stream;

/** What README.md says: its example calls, its table of answers below 0, and the tests that it names. */
public final class ReadmeTests {
    private static final Pattern EXAMPLE = Pattern.compile("x\\.(\\w+)\\(([^()]*)\\); +// (-?\\d+|[A-Z]+): .*");
    private static final Pattern ANSWER = Pattern.compile("\\| `([A-Z]+)` *\\| (-\\d+) *\\|[^|]*\\| (.*) \\|");
    private static final Pattern NAMED_TEST = Pattern.compile("- `(\\w+)`: .*");
    private static final Pattern CODE = Pattern.compile("`(\\w+)`");
    private static final int FAR_BELOW = -100000, LEAST_REFUSAL = -14;
    private static final int RUNS = 4000, CALLS = 512, ITEMS = 24, FURNISHING = 120;
    private static final int[] ODD = {-1, -2, 4, 5, 6, 7, 8, 9, 10, 15, 16, 17, 24, 25, 99, 100, 999, 1000, Integer.MIN_VALUE, Integer.MAX_VALUE};
    /** What README.md says no run of 512 calls comes to. */
    private static final Set<String> NEVER_SEEN = Set.of("evening FULL", "rests NONE");
    private static final Map<String, Method> FACE = face();
    private static int wrong = 0;

    private static void due(String what, Object got, Object want) {
        if (!got.equals(want)) {
            wrong++;
            System.out.println(what + ": " + got + ", due is " + want);
        }
    }

    private static Map<String, Method> face() {
        Map<String, Method> face = new TreeMap<>();
        for (Method m : SpunTales.class.getMethods()) if (m.getDeclaringClass() == SpunTales.class) face.put(m.getName(), m);
        return face;
    }

    private static int answer(SpunTales x, Method call, Object[] numbers) throws Exception {
        try {
            return (int) call.invoke(x, numbers);
        } catch (InvocationTargetException e) {
            throw new IllegalStateException(call.getName() + " threw", e.getCause());
        }
    }

    private static int constant(String name) throws Exception {
        return SpunTales.class.getField(name).getInt(null);
    }

    // ---- the examples

    private static Object number(String literal, Class<?> type) {
        boolean isLong = literal.endsWith("L");
        if (type == int.class) return Integer.decode(literal);
        return isLong ? Long.decode(literal.substring(0, literal.length() - 1)) : (long) Integer.decode(literal);
    }

    private static void example(SpunTales x, String row, Matcher parts) throws Exception {
        Method call = FACE.get(parts.group(1));
        String[] literals = parts.group(2).isEmpty() ? new String[0] : parts.group(2).split(", ");
        if (x == null || call == null || call.getParameterCount() != literals.length) {
            due("'" + row + "' can be called", false, true);
            return;
        }
        Object[] numbers = new Object[literals.length];
        for (int i = 0; i < literals.length; i++) numbers[i] = number(literals[i], call.getParameterTypes()[i]);
        String named = parts.group(3);
        int want = Character.isLetter(named.charAt(0)) ? constant(named) : Integer.parseInt(named);
        due("README.md: " + row, answer(x, call, numbers), want);
    }

    private static void examples(List<String> page) throws Exception {
        Set<String> shown = new TreeSet<>();
        Set<String> refusals = new TreeSet<>();
        SpunTales x = null;
        int objects = 0;
        boolean inside = false;
        for (String row : page) {
            if (row.startsWith("```")) {
                inside = row.equals("```java");
            } else if (inside && row.equals("SpunTales x = new SpunTales();")) {
                x = new SpunTales();
                objects++;
            } else if (inside) {
                Matcher parts = EXAMPLE.matcher(row);
                boolean isExample = parts.matches();
                due("'" + row + "' is an example call with its answer", isExample, true);
                if (!isExample) continue;
                example(x, row, parts);
                shown.add(parts.group(1));
                if (Character.isLetter(parts.group(3).charAt(0))) refusals.add(parts.group(3));
            }
        }
        due("objects made", objects, 2);
        due("calls that are shown", shown, FACE.keySet());
        due("refusals that are shown", refusals, new TreeSet<>(List.of("BAD", "NOT", "FULL", "NONE", "NULL", "CAST", "INDEX", "SIZE")));
    }

    // ---- the table of answers below 0

    private static Set<String> callsNamed(String text) {
        Set<String> names = new TreeSet<>();
        Matcher codes = CODE.matcher(text);
        while (codes.find()) names.add(codes.group(1));
        if (!text.startsWith("all but ")) return names;
        return without(FACE.keySet(), names);
    }

    /** What the table tells, each as a call and an answer. */
    private static Set<String> toldAnswers(List<String> page) throws Exception {
        Set<String> told = new TreeSet<>();
        Set<String> names = new TreeSet<>();
        for (String row : page) {
            Matcher parts = ANSWER.matcher(row);
            if (!parts.matches()) continue;
            String name = parts.group(1);
            names.add(name);
            due("README.md: the value of " + name, Integer.parseInt(parts.group(2)), constant(name));
            for (String call : callsNamed(parts.group(3))) {
                due(call + " is a call", FACE.containsKey(call), true);
                told.add(call + " " + name);
            }
        }
        due("answers in the table", names.size(), 8);
        return told;
    }

    private static long digits(Random r) {
        long w = 0;
        for (int k = 0; k < 8; k++) w = w << 8 | (r.nextInt(30) == 0 ? r.nextInt(256) : '0' + r.nextInt(10));
        return w;
    }

    private static Object[] numbers(Random r, Method call) {
        Object[] numbers = new Object[call.getParameterCount()];
        for (int i = 0; i < numbers.length; i++) {
            if (call.getParameterTypes()[i] == int.class) numbers[i] = r.nextInt(4) > 0 ? r.nextInt(4) : ODD[r.nextInt(ODD.length)];
            else numbers[i] = call.getName().equals("type") ? digits(r) : r.nextBoolean() ? r.nextLong() : (long) r.nextInt(12);
        }
        return numbers;
    }

    /** Makes at most 120 calls, by which most of what can be asked is there. */
    private static void furnish(Random r, SpunTales x) {
        for (int tale = 0; tale < 8; tale++) {
            x.type(digits(r), 1 + r.nextInt(4));
            x.tale();
        }
        x.teller(r.nextInt(4));
        x.spinner();
        for (int sheet = 0; sheet < 4; sheet++) {
            int lane = r.nextInt(3);
            x.sheet(sheet, lane, ITEMS);
            for (int i = 0; i < ITEMS; i++) x.item(sheet, lane, i, r.nextInt(4) > 0 ? r.nextInt(4) : r.nextInt(12));
        }
    }

    /** Points of a play may be below 0; what it refuses is 100000 less. Faults of a text are below all refusals. */
    private static int refusal(String call, int answer) {
        int least = call.equals("play") ? answer - FAR_BELOW : answer;
        return least < 0 && least >= LEAST_REFUSAL ? least : 0;
    }

    private static Set<String> seenAnswers() throws Exception {
        Map<Integer, String> names = new TreeMap<>();
        for (String name : List.of("BAD", "NOT", "FULL", "NONE", "NULL", "CAST", "INDEX", "SIZE")) names.put(constant(name), name);
        List<Method> calls = new ArrayList<>(FACE.values());
        Set<String> seen = new TreeSet<>();
        for (int run = 0; run < RUNS; run++) {
            Random r = new Random(run);
            SpunTales x = new SpunTales();
            boolean isFurnished = run % 2 == 0;
            if (isFurnished) furnish(r, x);
            for (int made = isFurnished ? FURNISHING : 0; made < CALLS; made++) {
                Method call = calls.get(r.nextInt(calls.size()));
                int refusal = refusal(call.getName(), answer(x, call, numbers(r, call)));
                if (refusal < 0) seen.add(call.getName() + " " + names.get(refusal));
            }
        }
        return seen;
    }

    private static Set<String> without(Set<String> all, Set<String> others) {
        Set<String> left = new TreeSet<>(all);
        left.removeAll(others);
        return left;
    }

    private static void answersBelow0(List<String> page) throws Exception {
        Set<String> told = toldAnswers(page);
        Set<String> seen = seenAnswers();
        for (String never : NEVER_SEEN) due("'" + never + "' was seen", seen.contains(never), false);
        seen.addAll(NEVER_SEEN);
        due("README.md: answers that are told, but not seen", without(told, seen), Set.of());
        due("README.md: answers that are seen, but not told", without(seen, told), Set.of());
    }

    // ---- the tests

    private static void testsNamed(List<String> page) throws Exception {
        Set<String> named = new TreeSet<>();
        for (String row : page) {
            Matcher parts = NAMED_TEST.matcher(row);
            if (parts.matches()) named.add(parts.group(1) + ".java");
        }
        Set<String> there = new TreeSet<>();
        try (Stream<Path> files = Files.list(Path.of("src/test/java"))) {
            files.forEach(file -> there.add(file.getFileName().toString()));
        }
        due("README.md: the tests", named, there);
    }

    public static void main(String[] args) throws Exception {
        List<String> page = Files.readAllLines(Path.of("README.md"));
        examples(page);
        answersBelow0(page);
        testsNamed(page);
        System.out.println(wrong == 0 ? "README.md is as the class is" : wrong + " things in README.md are not so");
        if (wrong != 0) System.exit(1);
    }
}

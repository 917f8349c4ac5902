import java.io.IOException;
import java.lang.reflect.Method;
import java.nio.file.Files;
import java.nio.file.Path;
import java.util.ArrayList;
import java.util.List;
import java.util.Map;
import java.util.TreeMap;
import java.util.TreeSet;
import java.util.regex.Matcher;
import java.util.regex.Pattern;
import java.util.stream.Stream;

/** What README.md says is so: each example, the tables of calls, errors and kinds, and the list of tests. */
public final class ReadmeTest {
    private static final Path README = Path.of("README.md");
    private static final Path DOCUMENT = Path.of("../shared/DOC.md");
    private static final Path TESTS = Path.of("src/test/java");
    private static final Pattern NEW_HOUSE = Pattern.compile("OperaGlasses house = new OperaGlasses\\(\\);.*");
    private static final Pattern CALL = Pattern.compile("house\\.(\\w+)\\((.*)\\); *// (-?\\d+|[A-Z_]+)\\b(.*)");
    private static final Pattern QUOTED = Pattern.compile("\"(.*)\"");
    private static final Pattern CODE = Pattern.compile("NO_SUCH|BAD_VALUE|BAD_TEXT|TOO_MANY|NOT_POSSIBLE|NONE");
    private static final Pattern ROW_OF_A_CALL = Pattern.compile("\\| `(\\w+)\\((.*)\\)` \\| .* \\|(.*)\\|");
    private static final Pattern ROW_OF_A_NUMBER = Pattern.compile("\\| `([A-Z_]+)` \\| (-?\\d) \\|(?: `(.)` \\|)?.*");
    private static final Pattern ROW_OF_A_TEST = Pattern.compile("\\| `(\\w+Test)` \\| .*");
    private static final Pattern SIGNATURE = Pattern.compile("`int (\\w+)\\((.*)\\)`: .*");
    private static final int CALLS = 25, ERRORS = 6, KINDS = 6;

    private static final Checks checks = new Checks();

    public static void main(String[] args) throws Exception {
        List<String> page = Files.readAllLines(README);
        examples(page);
        numbers(page);
        calls(page);
        tests(page);
        checks.end();
    }

    private static void check(boolean right, String what) {
        checks.due(what, right ? 1 : 0, 1);
    }

    private static void examples(List<String> page) throws ReflectiveOperationException {
        OperaGlasses house = new OperaGlasses();
        TreeSet<String> used = new TreeSet<>();
        for (String line : page) {
            if (!line.startsWith("    ")) {
                continue;
            }
            String code = line.strip();
            Matcher call = CALL.matcher(code);
            if (NEW_HOUSE.matcher(code).matches()) {
                house = new OperaGlasses();
            } else if (call.matches()) {
                used.add(call.group(1));
                example(house, call);
            } else {
                check(code.startsWith("javac ") || code.equals(".ci/run"), "README.md: an example that is not tried: " + code);
            }
        }
        check(used.size() >= CALLS - 1, "README.md shows nearly each call; it shows " + used);
    }

    private static void example(OperaGlasses house, Matcher call) throws ReflectiveOperationException {
        String[] words = call.group(2).isEmpty() ? new String[0] : call.group(2).split(", *");
        Method method = methodOf(call.group(1));
        Object[] arguments = new Object[words.length];
        for (int i = 0; i < words.length; i++) {
            arguments[i] = valueOf(words[i], method.getParameterTypes()[i]);
        }
        checks.due("README.md: " + call.group(), (int) method.invoke(house, arguments), numberOf(call.group(3)));
        Matcher quoted = QUOTED.matcher(call.group(4));
        if (method.getName().equals("put") && quoted.find()) {
            String text = quoted.group(1);
            checks.due("README.md: " + text, (long) arguments[0], Checks.packed(text));
        }
    }

    private static Method methodOf(String name) {
        for (Method method : OperaGlasses.class.getMethods()) {
            if (method.getName().equals(name)) {
                return method;
            }
        }
        throw new IllegalArgumentException("README.md has a call that is not there: " + name);
    }

    private static Object valueOf(String word, Class<?> type) throws ReflectiveOperationException {
        if (type == boolean.class) {
            return word.equals("true");
        }
        if (type == long.class) {
            return Long.decode(word.replace("L", ""));
        }
        return numberOf(word.replace("OperaGlasses.", ""));
    }

    private static int numberOf(String word) throws ReflectiveOperationException {
        return word.matches("-?\\d+") ? Integer.parseInt(word) : OperaGlasses.class.getField(word).getInt(null);
    }

    /** The tables of the errors and of the kinds; a kind's sign is tried on the pad. */
    private static void numbers(List<String> page) throws ReflectiveOperationException {
        int errors = 0;
        int kinds = 0;
        for (String line : page) {
            Matcher row = ROW_OF_A_NUMBER.matcher(line);
            if (!row.matches()) {
                continue;
            }
            int number = Integer.parseInt(row.group(2));
            checks.due("README.md: " + row.group(1), number, numberOf(row.group(1)));
            if (row.group(3) == null) {
                errors++;
                continue;
            }
            kinds++;
            OperaGlasses house = new OperaGlasses();
            Checks.type(house, "0:1" + row.group(3) + "2");
            checks.due("README.md: a text with " + row.group(3), house.tellAll(), 1);
            checks.due("README.md: the kind of " + row.group(3), house.rumour(0, 1), number);
        }
        checks.due("README.md: errors", errors, ERRORS);
        checks.due("README.md: kinds", kinds, KINDS);
    }

    /** Each call has a row with the names that the document gives, and its errors in the document's order. */
    private static void calls(List<String> page) throws IOException {
        Map<String, String> rows = new TreeMap<>();
        for (String line : page) {
            Matcher row = ROW_OF_A_CALL.matcher(line);
            if (row.matches()) {
                rows.put(row.group(1) + "(" + row.group(2) + ")", codesIn(row.group(3)).toString());
            }
        }
        Map<String, String> due = callsOfTheDocument();
        checks.due("calls of the document", due.size(), CALLS);
        for (String call : due.keySet()) {
            check(due.get(call).equals(rows.get(call)), "README.md: " + call + " with " + rows.get(call) + ", due is " + due.get(call));
        }
        checks.due("README.md: calls", rows.size(), CALLS);
    }

    private static Map<String, String> callsOfTheDocument() throws IOException {
        Map<String, String> calls = new TreeMap<>();
        for (String promise : Files.readString(DOCUMENT).split("\n## ")) {
            Matcher signature = SIGNATURE.matcher(promise);
            if (promise.startsWith("Promise ") && signature.find()) {
                String names = signature.group(2).replaceAll("\\w+ (\\w+)", "$1");
                calls.put(signature.group(1) + "(" + names + ")", codesIn(promise).toString());
            }
        }
        return calls;
    }

    private static List<String> codesIn(String text) {
        List<String> codes = new ArrayList<>();
        for (Matcher code = CODE.matcher(text); code.find(); ) {
            codes.add(code.group());
        }
        return codes;
    }

    private static void tests(List<String> page) throws IOException {
        TreeSet<String> named = new TreeSet<>();
        for (String line : page) {
            Matcher row = ROW_OF_A_TEST.matcher(line);
            if (row.matches()) {
                named.add(row.group(1));
            }
        }
        String whole = String.join("\n", page);
        TreeSet<String> there = new TreeSet<>();
        try (Stream<Path> files = Files.list(TESTS)) {
            for (Path file : files.toList()) {
                String name = file.getFileName().toString().replace(".java", "");
                check(whole.contains("`" + name + "`"), "README.md does not name " + name);
                if (name.endsWith("Test")) {
                    there.add(name);
                }
            }
        }
        check(named.equals(there), "README.md: the tests " + named + ", due are " + there);
    }
}

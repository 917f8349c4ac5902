import java.io.IOException;
import java.lang.reflect.Method;
import java.lang.reflect.Modifier;
import java.nio.file.Files;
import java.nio.file.Path;
import java.util.Arrays;
import java.util.List;
import java.util.Set;
import java.util.TreeSet;
import java.util.regex.Matcher;
import java.util.regex.Pattern;
import java.util.stream.Collectors;

/** The face of the class, and the rules of LANGUAGE.md that can be seen in its source. */
public final class LanguageTest {
    private static final Path SOURCE = Path.of("src/main/java/OperaGlasses.java");
    private static final List<String> FACE = List.of(
        "OperaGlasses()", "certain(int)", "count(int)", "blame(int)", "doubt(int)", "endAct()", "fault()",
        "guess(int,int,int)", "ifProved(int,int,int)", "look(int,int)", "mostWatched(int)", "open(int)",
        "person(int,int)", "possible(int,int)", "prove(int,boolean)", "put(long)", "restore(int)", "reveal()",
        "rumour(int,int)", "save(int)", "sharpest(int)", "tell(int,int,int,int)", "tellAll()", "undo()", "wipe()",
        "world(int,int)");
    private static final List<String> FORBIDDEN = List.of(
        "throw", "try", "catch", "finally", "synchronized", "assert", "import", "package", "equals", "hashCode",
        "toString", "Exact", "->", "::", "System.out", "Random", "Thread", "protected", "volatile", "transient");

    private static int wrong;

    public static void main(String[] args) throws IOException {
        face();
        constants();
        nothingElseIsSeen();
        noPrivateNameOfThePublicFace();
        source(withoutComments(Files.readString(SOURCE)));
        sizes(Files.readString(SOURCE));
        if (wrong > 0) {
            System.exit(1);
        }
    }

    private static void check(boolean right, String what) {
        if (!right) {
            wrong++;
            System.out.println("not as the rules want it: " + what);
        }
    }

    private static void face() {
        Set<String> seen = new TreeSet<>();
        seen.add("OperaGlasses()");
        for (Method method : OperaGlasses.class.getDeclaredMethods()) {
            if (Modifier.isPublic(method.getModifiers())) {
                String types = Arrays.stream(method.getParameterTypes()).map(Class::getName).collect(Collectors.joining(","));
                seen.add(method.getName() + "(" + types + ")");
                check(method.getReturnType() == int.class, method.getName() + " answers an int");
                check(!Modifier.isStatic(method.getModifiers()), method.getName() + " is of an object");
            }
        }
        check(seen.equals(new TreeSet<>(FACE)), "the public methods: " + seen);
        check(Modifier.isFinal(OperaGlasses.class.getModifiers()), "the class is final");
        check(OperaGlasses.class.getDeclaredConstructors().length == 1, "one constructor");
        check(OperaGlasses.class.getConstructors()[0].getParameterCount() == 0, "without parameters");
    }

    private static void constants() {
        int[] values = {OperaGlasses.NO_SUCH, OperaGlasses.BAD_VALUE, OperaGlasses.BAD_TEXT, OperaGlasses.TOO_MANY,
            OperaGlasses.NOT_POSSIBLE, OperaGlasses.NONE, OperaGlasses.LOOKS, OperaGlasses.LOOKS_NOT,
            OperaGlasses.MIRROR, OperaGlasses.SAME, OperaGlasses.WATCHED, OperaGlasses.BEYOND};
        check(Arrays.equals(values, new int[] {-1, -2, -3, -4, -5, -6, 0, 1, 2, 3, 4, 5}), "the constants");
        check(OperaGlasses.class.getFields().length == values.length, "no other public field");
    }

    private static void nothingElseIsSeen() {
        int hidden = Modifier.PUBLIC | Modifier.PRIVATE;
        for (Method method : OperaGlasses.class.getDeclaredMethods()) {
            check((method.getModifiers() & hidden) != 0, method.getName() + " is public or private");
        }
        for (var field : OperaGlasses.class.getDeclaredFields()) {
            check((field.getModifiers() & hidden) != 0, field.getName() + " is public or private");
        }
        for (Class<?> inside : OperaGlasses.class.getDeclaredClasses()) {
            check(Modifier.isStatic(inside.getModifiers()), inside.getName() + " is static");
        }
    }

    private static void noPrivateNameOfThePublicFace() {
        List<String> names = FACE.stream().map(m -> m.substring(0, m.indexOf('('))).toList();
        for (Method method : OperaGlasses.class.getDeclaredMethods()) {
            check(Modifier.isPublic(method.getModifiers()) || !names.contains(method.getName()), method.getName());
        }
        for (Class<?> inside : OperaGlasses.class.getDeclaredClasses()) {
            for (Method method : inside.getDeclaredMethods()) {
                check(!names.contains(method.getName()), inside.getName() + " has " + method.getName());
            }
        }
    }

    private static String withoutComments(String source) {
        return source.replaceAll("(?s)/\\*.*?\\*/", "").replaceAll("//[^\n]*", "");
    }

    private static void source(String code) {
        for (String word : FORBIDDEN) {
            boolean isWord = Character.isLetter(word.charAt(0)) && !word.equals("Exact");
            String pattern = isWord ? "\\b" + Pattern.quote(word) + "\\b" : Pattern.quote(word);
            check(!Pattern.compile(pattern).matcher(code).find(), "it has " + word);
        }
        check(code.chars().allMatch(c -> c == '\n' || c >= 32 && c < 127), "plain characters alone");
        for (Matcher m = Pattern.compile("static (?!final)\\w+ \\w+( =|;)").matcher(code); m.find(); ) {
            check(false, "a static field that is not final: " + m.group());
        }
        check(!Pattern.compile("new (?!int\\[|char\\[)\\w+\\(?").matcher(methodsAlone(code)).find(), "no call makes an object");
    }

    /** The code without field initialisers and constructors, which may make objects. */
    private static String methodsAlone(String code) {
        return code.replaceAll("private final [^;]*;", "").replaceAll("(?s)\n        (House|History)\\(\\) \\{.*?\n        \\}", "");
    }

    private static void sizes(String source) {
        int length = 0;
        int longest = 0;
        for (String line : source.split("\n")) {
            boolean begins = line.matches(" {4,8}[a-zA-Z].*\\) \\{");
            boolean ends = line.matches(" {4,8}\\}");
            length = begins ? 0 : length + 1;
            longest = ends ? Math.max(longest, length) : longest;
        }
        check(longest <= 60, "a method of " + longest + " lines");
        check(OperaGlasses.class.getDeclaredClasses().length <= 12, "some twelve classes");
    }
}

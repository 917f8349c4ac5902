import java.io.IOException;
import java.lang.reflect.Field;
import java.lang.reflect.Method;
import java.lang.reflect.Modifier;
import java.util.ArrayList;
import java.util.HashMap;
import java.util.List;
import java.util.Map;
import java.util.Set;

/** The rules of LANGUAGE.md that can be seen in the compiled classes, by their numbers. */
public final class CompiledTest {
    private static final int MOST_PARAMETERS = 7, DEEPEST = 8, MOST_CLASSES = 12, MOST_FIELDS = 20;
    /** Of rule 4 what the class may call; what it does not need is not listed. */
    private static final Set<String> LIBRARY = Set.of(
        "java/lang/Object.<init>()V", "java/lang/String.indexOf(I)I", "java/lang/Math.max(II)I", "java/lang/Math.min(II)I");
    /** Where rows are read and written; each of these looks at the index first, or counts over the row itself. */
    private static final Set<String> GUARDED = Set.of(
        "at", "setAt", "addAt", "fillRow", "copyRow", "watchers", "arrange", "begin", "rumourAt", "stateAt", "firstBroken",
        "append", "characterAt", "<init>");
    private static final Set<Class<?>> NUMBERS = Set.of(
        int.class, long.class, short.class, byte.class, char.class, boolean.class, double.class, float.class);

    private static final Checks checks = new Checks();
    private static final Map<String, ClassFile.Code> methods = new HashMap<>();

    public static void main(String[] args) throws IOException {
        List<Class<?>> classes = allClasses(OperaGlasses.class);
        check(classes.size() <= MOST_CLASSES, "11: some twelve classes, not " + classes.size());
        for (Class<?> each : classes) {
            fields(each, classes);
            parameters(each);
            for (ClassFile.Code code : new ClassFile(each).methods) {
                check(methods.put(each.getName() + "." + code.name, code) == null, "8: two methods are not told apart here: " + code.name);
                instructions(each.getName() + "." + code.name, code);
            }
        }
        // The machine's own reading of the class tells whether all of it was read here.
        for (Class<?> each : classes) {
            for (Method method : each.getDeclaredMethods()) {
                check(methods.containsKey(each.getName() + "." + method.getName()), "a method that was not read: " + method);
            }
        }
        for (String method : methods.keySet()) {
            callsBelow(method, List.of());
        }
        checks.end();
    }

    private static void check(boolean right, String what) {
        checks.due("rule " + what, right ? 1 : 0, 1);
    }

    private static List<Class<?>> allClasses(Class<?> outer) {
        List<Class<?>> classes = new ArrayList<>();
        classes.add(outer);
        for (Class<?> inside : outer.getDeclaredClasses()) {
            check(Modifier.isStatic(inside.getModifiers()), "1: " + inside.getName() + " is static");
            check(!inside.isAnonymousClass() && !inside.isLocalClass(), "2: " + inside.getName() + " has a place of its own");
            classes.addAll(allClasses(inside));
        }
        return classes;
    }

    private static void fields(Class<?> each, List<Class<?>> classes) {
        int own = 0;
        for (Field field : each.getDeclaredFields()) {
            Class<?> type = field.getType();
            boolean isConstant = Modifier.isStatic(field.getModifiers());
            own += isConstant ? 0 : 1;
            Class<?> part = type.isArray() ? type.getComponentType() : type;
            check(NUMBERS.contains(part) || part == String.class || classes.contains(part), "3: the type of " + field);
            check(!isConstant || Modifier.isFinal(field.getModifiers()), "5: " + field + " is final");
            check(!isConstant || NUMBERS.contains(type) || type == String.class, "5: " + field + " is a constant");
        }
        check(own <= MOST_FIELDS, "11: some twenty fields in " + each.getName());
    }

    private static void parameters(Class<?> each) {
        for (Method method : each.getDeclaredMethods()) {
            check(method.getParameterCount() <= MOST_PARAMETERS, "11: the parameters of " + method);
            check(!Set.of("equals", "hashCode", "toString").contains(method.getName()), "6: " + method);
        }
    }

    private static void instructions(String name, ClassFile.Code code) {
        String last = name.substring(name.lastIndexOf('.') + 1);
        check(!last.equals("<clinit>"), "5: no static initialiser: " + name);
        check(!code.operations.contains(ClassFile.ATHROW), "6: throw in " + name);
        check(!code.catches, "6: catch in " + name);
        check(!code.operations.contains(ClassFile.MONITORENTER), "6: synchronized in " + name);
        check(!code.operations.contains(ClassFile.INVOKEDYNAMIC), "2, 10: a lambda, or texts joined by +, in " + name);
        check(!code.operations.contains(ClassFile.CHECKCAST), "6: a cast of an object in " + name);
        check(code.dividesSafely, "7: a divisor that is no constant in " + name);
        check(!code.usesArrays || GUARDED.contains(last), "7: a row is used in " + name);
        check(!code.makes || last.equals("<init>"), "12: an object is made in " + name);
        for (String call : code.calls) {
            check(!call.startsWith("java/") || LIBRARY.contains(call), "4: " + name + " calls " + call);
        }
    }

    private static void callsBelow(String method, List<String> above) {
        check(!above.contains(method), "8: recursion of " + method);
        check(above.size() < DEEPEST, "11: calls too deep: " + above + " and " + method);
        if (above.contains(method) || above.size() >= DEEPEST || !methods.containsKey(method)) {
            return;
        }
        List<String> path = new ArrayList<>(above);
        path.add(method);
        for (String called : methods.get(method).calls) {
            if (!called.startsWith("java/")) {
                callsBelow(called, path);
            }
        }
    }
}

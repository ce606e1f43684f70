import java.io.IOException;
import java.lang.reflect.Array;
import java.lang.reflect.Constructor;
import java.lang.reflect.Executable;
import java.lang.reflect.Field;
import java.lang.reflect.Method;
import java.lang.reflect.Modifier;
import java.nio.file.Files;
import java.nio.file.Path;
import java.util.ArrayDeque;
import java.util.ArrayList;
import java.util.Deque;
import java.util.IdentityHashMap;
import java.util.List;
import java.util.Map;
import java.util.Set;
import java.util.regex.Pattern;

/** What can be seen from outside of the rules of ../shared/LANGUAGE.md, told by their numbers. */
final class FormTest {
    private static final Path SOURCE = Path.of("src/main/java/FadingSheets.java");
    private static final Set<String> STATIC_TYPES = Set.of("int", "long", "boolean", "char", "String", "int[]",
            "long[]", "byte[]", "char[]");
    private static final Set<String> THROWN = Set.of("IllegalStateException", "IllegalArgumentException",
            "IndexOutOfBoundsException", "ArithmeticException", "UnsupportedOperationException",
            "NoSuchElementException", "RuntimeException");
    /** Each with the rule that leaves it out. */
    private static final String[][] NOT_WRITTEN = {
        {"\\bpackage\\b", "1"}, {"\\bimport\\b", "4"}, {"->", "2"}, {"::", "2"}, {"\\w+Exact\\(", "4"},
        {"\\bstatic\\s*\\{", "5"}, {"\\bfinally\\b", "6"}, {"\\bsynchronized\\b", "6"}, {"\\bassert\\b", "6"},
        {"\\bextends \\w*Exception", "6"}, {"\\bwhile \\(true\\)", "9"}, {"for \\(;", "9"},
        {"\\bcatch \\((?!IllegalStateException |IllegalArgumentException )", "6"},
        {"\"\\s*\\+|\\+\\s*\"", "10"}, {"System\\.(?!arraycopy)", "13"},
        {"\\bRandom\\b|\\bThread\\b|\\brandom\\(", "13"},
    };

    public static void main(String[] args) throws IOException {
        Class<?>[] inside = FadingSheets.class.getDeclaredClasses();
        Check.isTrue("rule 11: some twelve classes", inside.length < 12);
        sees(FadingSheets.class);
        for (Class<?> one : inside) {
            int modifiers = one.getModifiers();
            Check.isTrue("rule 1: " + one + " is static, and not public or protected", Modifier.isStatic(modifiers)
                    && !Modifier.isPublic(modifiers) && !Modifier.isProtected(modifiers));
            sees(one);
        }
        readsSource();
        makesLittle();
        Check.end();
    }

    private static void sees(Class<?> one) {
        int ofObjects = 0;
        for (Field field : one.getDeclaredFields()) {
            if (!Modifier.isStatic(field.getModifiers())) {
                ofObjects++;
                continue;
            }
            Check.isTrue("rule 5: " + field, Modifier.isFinal(field.getModifiers())
                    && STATIC_TYPES.contains(field.getType().getSimpleName()));
        }
        Check.isTrue("rule 11: some twenty fields in " + one, ofObjects <= 20);
        for (Method method : one.getDeclaredMethods()) {
            seesCall(method);
            Check.isTrue("rule 6: " + method + " is none of every object", !Set.of("equals", "hashCode", "toString",
                    "finalize").contains(method.getName()));
        }
        for (Constructor<?> constructor : one.getDeclaredConstructors()) {
            seesCall(constructor);
        }
    }

    private static void seesCall(Executable call) {
        Check.isTrue("rule 11: seven parameters of " + call, call.getParameterCount() <= 7);
        for (Class<?> type : call.getParameterTypes()) {
            seesType(type, call);
        }
        if (call instanceof Method method) {
            seesType(method.getReturnType(), call);
        }
    }

    private static void seesType(Class<?> type, Executable call) {
        Class<?> part = type;
        while (part.isArray()) {
            part = part.getComponentType();
        }
        Check.isTrue("rule 3: " + type + " in " + call, part.isPrimitive() || part == String.class
                || part.getName().startsWith("FadingSheets"));
    }

    private static void readsSource() throws IOException {
        List<String> lines = Files.readAllLines(SOURCE);
        int methodLines = 0;
        for (String line : lines) {
            Check.isTrue("rule 4: signs of 1 to 127 in " + line, line.chars().allMatch(c -> c >= 1 && c <= 127));
            boolean isComment = line.strip().startsWith("*") || line.strip().startsWith("/");
            String code = isComment ? "" : line;
            for (String[] row : NOT_WRITTEN) {
                Check.isTrue("rule " + row[1] + ": " + row[0] + " is not in " + line,
                        !Pattern.compile(row[0]).matcher(code).find());
            }
            seesThrow(code);
            methodLines = code.isBlank() && !isComment ? 0 : methodLines + 1;
            Check.isTrue("rule 11: some sixty lines, " + line, methodLines <= 60);
        }
    }

    private static void seesThrow(String code) {
        if (Pattern.compile("\\bthrow\\b").matcher(code).find()) {
            String thrown = code.replaceAll(".*throw new (\\w+)\\((\"[^\"]*\")?\\);.*", "$1");
            Check.isTrue("rule 6: " + code.strip(), THROWN.contains(thrown));
        }
    }

    /** Rule 12, and the one room for all calls: a new object is small, and no call makes it greater. */
    private static void makesLittle() {
        FadingSheets x = new FadingSheets();
        long made = sizeOf(x);
        Check.isTrue("objects, fields and elements of a new object: " + made, made <= 5000);
        Texts.put(x, "Fttr0104u0u1w02718289k000g00h02");
        for (int i = 0; i < 20; i++) {
            x.load();
            x.town();
            x.write(0, i, 1);
            x.hours(2);
            x.copy(0, 5);
            x.save(i % 2);
            x.simulate(i, 60);
            x.runScript(3, 100005000140000L);
            x.restore(i % 2);
            x.lay(0);
            x.route(0, 1, i % 2);
            x.undo();
        }
        Check.isTrue("no call makes it greater", sizeOf(x) == made);
    }

    /** The objects and arrays that an object holds, and all their fields and elements. */
    private static long sizeOf(Object first) {
        Map<Object, Boolean> seen = new IdentityHashMap<>();
        Deque<Object> open = new ArrayDeque<>();
        open.add(first);
        seen.put(first, true);
        long size = 0;
        while (!open.isEmpty()) {
            Object one = open.remove();
            List<Object> parts = new ArrayList<>();
            size += 1 + partsOf(one, parts);
            for (Object part : parts) {
                if (part != null && seen.put(part, true) == null) {
                    open.add(part);
                }
            }
        }
        return size;
    }

    /** Answers how many fields or elements there are, and puts those that are objects into the list. */
    private static int partsOf(Object one, List<Object> parts) {
        if (one.getClass().isArray()) {
            boolean isOfNumbers = one.getClass().getComponentType().isPrimitive();
            for (int i = 0; !isOfNumbers && i < Array.getLength(one); i++) {
                parts.add(Array.get(one, i));
            }
            return Array.getLength(one);
        }
        int fields = 0;
        for (Field field : one.getClass().getDeclaredFields()) {
            if (Modifier.isStatic(field.getModifiers())) {
                continue;
            }
            fields++;
            if (!field.getType().isPrimitive()) {
                parts.add(valueOf(field, one));
            }
        }
        return fields;
    }

    private static Object valueOf(Field field, Object one) {
        try {
            field.setAccessible(true);
            return field.get(one);
        } catch (IllegalAccessException e) {
            throw new AssertionError(e);
        }
    }
}

import java.lang.reflect.Constructor;
import java.lang.reflect.Field;
import java.lang.reflect.Method;
import java.lang.reflect.Modifier;
import java.util.Set;
import java.util.TreeSet;

/** The public face: every member with the exceptions that it declares, and no other. */
final class FaceTest {
    private static final String B = " IndexOutOfBoundsException";
    private static final String A = " IllegalArgumentException";
    private static final String S = " IllegalStateException";

    private static final String[] FACE = {
        "append(int)" + A + S, "clearText()", "errorPosition()", "load()" + S,
        "about(int)" + A, "roadOf(int,int)" + B + A, "runnerOf(int,int)" + B + A, "sheetOf(int,int)" + B + A,
        "message(int)" + B, "town()" + S, "road(int,int,int)" + B + A + S, "runner(int)" + B + S,
        "write(int,int,int)" + B + A + S, "take(int,int)" + B + S, "lay(int)" + B + S, "go(int,int)" + B + S,
        "copy(int,int)" + B + A, "proof(int,int,int,int)" + B + A, "hours(int)" + A, "undo()" + S,
        "why(int)" + B, "errorsIn(int,int)" + B + A, "rightFor(int)" + B, "route(int,int,int)" + B + A,
        "roadTo(int,int)" + B, "ifBrought(int,int)" + B, "best(int)" + B, "runScript(int,long)" + A,
        "simulate(long,int)" + A, "save(int)" + B, "restore(int)" + B + S,
    };

    public static void main(String[] args) {
        Class<?> face = FadingSheets.class;
        Check.isTrue("the class is public and final",
                Modifier.isPublic(face.getModifiers()) && Modifier.isFinal(face.getModifiers()));
        Check.due("NONE", -1, () -> FadingSheets.NONE);
        Set<String> due = new TreeSet<>(Set.of(FACE));
        Set<String> names = new TreeSet<>();
        Set<String> privateNames = new TreeSet<>();
        for (Method method : face.getDeclaredMethods()) {
            if (Modifier.isPrivate(method.getModifiers())) {
                privateNames.add(method.getName());
                continue;
            }
            if (method.isSynthetic()) {
                continue;
            }
            names.add(method.getName());
            String told = told(method);
            Check.isTrue("the face has " + told, due.remove(told) && Modifier.isPublic(method.getModifiers()));
            Check.isTrue(told + " is an int of an object",
                    method.getReturnType() == int.class && !Modifier.isStatic(method.getModifiers()));
        }
        Check.isTrue("nothing of the face is missing: " + due, due.isEmpty());
        privateNames.retainAll(names);
        Check.isTrue("no private method bears a public name: " + privateNames, privateNames.isEmpty());
        for (Field field : face.getDeclaredFields()) {
            boolean isNone = field.getName().equals("NONE");
            Check.isTrue("the field " + field.getName(), isNone
                    ? field.getModifiers() == (Modifier.PUBLIC | Modifier.STATIC | Modifier.FINAL)
                    : Modifier.isPrivate(field.getModifiers()));
        }
        Constructor<?>[] constructors = face.getDeclaredConstructors();
        Check.isTrue("one public constructor without arguments", constructors.length == 1
                && Modifier.isPublic(constructors[0].getModifiers()) && constructors[0].getParameterCount() == 0);
        Check.end();
    }

    private static String told(Method method) {
        StringBuilder told = new StringBuilder(method.getName()).append('(');
        String comma = "";
        for (Class<?> type : method.getParameterTypes()) {
            told.append(comma).append(type.getSimpleName());
            comma = ",";
        }
        told.append(')');
        for (Class<?> type : method.getExceptionTypes()) {
            told.append(' ').append(type.getSimpleName());
        }
        return told.toString();
    }
}

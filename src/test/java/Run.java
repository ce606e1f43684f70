import java.lang.reflect.InvocationTargetException;
import java.lang.reflect.Method;
import java.util.ArrayList;
import java.util.HashMap;
import java.util.List;
import java.util.Map;
import java.util.Set;

/**
 * A new object and the calls made on it, each written as the document writes it. Of each call that throws, and of each
 * question, it is also checked that it changes nothing: the same calls with it and without it, made on two more new
 * objects, lead to the same.
 */
final class Run {
    /** What later calls answer is free, so nothing may be tested there. */
    private static final int MOST_CALLS = 512;
    private static final Set<String> QUESTIONS = Set.of("errorPosition", "about", "roadOf", "runnerOf", "sheetOf",
            "message", "why", "errorsIn", "rightFor", "route", "roadTo", "ifBrought", "best", "runScript", "simulate");
    private static final Map<String, Method> FACE = new HashMap<>();

    static {
        for (Method method : FadingSheets.class.getMethods()) {
            FACE.put(method.getName(), method);
        }
    }

    private final FadingSheets x = new FadingSheets();
    /** The calls but for those that were seen to change nothing. */
    private final List<String> calls = new ArrayList<>();
    private int callsMade;

    /** A new object on which the calls are made; none of them may throw. */
    static Run of(String... calls) {
        return new Run().does(calls);
    }

    static Run loaded(String text) {
        return new Run().text(text).does("load()");
    }

    /** 6 towns, 10 roads, 5 runners, 6 messages and 12 sheets, and nothing that undo could take back. */
    static Run full() {
        Run run = new Run();
        for (int t = 0; t < 6; t++) {
            run.does("town()");
        }
        for (int w = 0; w < 10; w++) {
            run.does("road(" + w % 5 + ", " + (w % 5 + 1) + ", " + (1 + w) + ")");
        }
        for (int r = 0; r < 5; r++) {
            run.does("runner(" + r + ")");
        }
        for (int m = 0; m < 6; m++) {
            run.does("write(" + m + ", " + (111111 * m) + ", " + m + ")");
        }
        for (int s = 0; s < 6; s++) {
            run.does("copy(" + s % 5 + ", " + s + ")");
        }
        return run.does("save(0)", "restore(0)");
    }

    /** A country of one town, a runner and so many sheets of one message, all of the ink 99. */
    static Run withSheets(int count) {
        StringBuilder text = new StringBuilder("Ftu0w01234560");
        for (int s = 1; s < count; s++) {
            text.append("c000");
        }
        return loaded(text.toString()).due("about(4)", count);
    }

    Run text(String text) {
        for (char sign : text.toCharArray()) {
            does("append(" + (int) sign + ")");
        }
        return this;
    }

    Run does(String... more) {
        for (String call : more) {
            String got = made(call);
            if (got.indexOf('.') >= 0) {
                Check.same(call + " behind " + calls, "no exception", got);
            }
        }
        return this;
    }

    Run due(String call, int want) {
        String got = made(call);
        if (!got.equals(String.valueOf(want))) {
            Check.same(call + " behind " + calls, String.valueOf(want), got);
        }
        if (QUESTIONS.contains(nameOf(call))) {
            changedNothing(call);
        }
        return this;
    }

    /** Each of them throws an IndexOutOfBoundsException. */
    Run noSuch(String... more) {
        return throwing(IndexOutOfBoundsException.class, more);
    }

    /** Each of them throws an IllegalArgumentException. */
    Run outOfRange(String... more) {
        return throwing(IllegalArgumentException.class, more);
    }

    /** Each of them throws an IllegalStateException. */
    Run notNow(String... more) {
        return throwing(IllegalStateException.class, more);
    }

    String answer(String call) {
        return made(call);
    }

    /** All that can be seen of the object without changing it. */
    String looks() {
        callsMade += Looks.MOST_CALLS_ALL;
        limit(callsMade);
        return Looks.all(x);
    }

    private Run throwing(Class<? extends RuntimeException> want, String... more) {
        for (String call : more) {
            Check.same(call + " behind " + calls, want.getName(), made(call));
            changedNothing(call);
        }
        return this;
    }

    /** The call is the last one that was made. */
    private void changedNothing(String call) {
        List<String> without = calls.subList(0, calls.size() - 1);
        String want = allOf(without);
        String got = allOf(calls);
        if (!want.equals(got)) {
            Check.same("what is there behind " + call + " behind " + without, want, got);
        }
        calls.remove(calls.size() - 1);
    }

    private static String allOf(List<String> calls) {
        FadingSheets x = new FadingSheets();
        for (String call : calls) {
            answerOf(x, call);
        }
        limit(calls.size() + Looks.MOST_CALLS_DEEP);
        return Looks.deep(x);
    }

    private static void limit(int count) {
        if (count > MOST_CALLS) {
            throw new AssertionError("too many calls on one object");
        }
    }

    private String made(String call) {
        calls.add(call);
        callsMade++;
        limit(callsMade);
        return answerOf(x, call);
    }

    private static String nameOf(String call) {
        return call.substring(0, call.indexOf('('));
    }

    private static String answerOf(FadingSheets x, String call) {
        Method method = FACE.get(nameOf(call));
        String inside = call.substring(call.indexOf('(') + 1, call.length() - 1);
        String[] told = inside.isEmpty() ? new String[0] : inside.split(", ");
        Object[] arguments = new Object[told.length];
        for (int i = 0; i < told.length; i++) {
            if (method.getParameterTypes()[i] == long.class) {
                arguments[i] = Long.valueOf(told[i]);
            } else {
                arguments[i] = Integer.valueOf(told[i]);
            }
        }
        try {
            return String.valueOf(method.invoke(x, arguments));
        } catch (InvocationTargetException e) {
            return e.getCause().getClass().getName();
        } catch (IllegalAccessException e) {
            throw new AssertionError(e);
        }
    }
}

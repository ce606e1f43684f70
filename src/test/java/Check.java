/** Counts the answers that are not due, and ends a test with exit code 1 if there was one. */
final class Check {
    interface Call {
        int answer();
    }

    private static int wrong = 0;

    private Check() {
    }

    static void due(String call, long want, Call made) {
        String got;
        try {
            got = String.valueOf(made.answer());
        } catch (RuntimeException e) {
            got = e.getClass().getName();
        }
        if (!got.equals(String.valueOf(want))) {
            tell(call, got, String.valueOf(want));
        }
    }

    /** The very class is due, not one below it: an ArrayIndexOutOfBoundsException is the machine's. */
    static void fails(String call, Class<? extends RuntimeException> want, Call made) {
        String got;
        try {
            got = String.valueOf(made.answer());
        } catch (RuntimeException e) {
            got = e.getClass().getName();
        }
        if (!got.equals(want.getName())) {
            tell(call, got, want.getName());
        }
    }

    static void noSuch(String call, Call made) {
        fails(call, IndexOutOfBoundsException.class, made);
    }

    static void outOfRange(String call, Call made) {
        fails(call, IllegalArgumentException.class, made);
    }

    static void notNow(String call, Call made) {
        fails(call, IllegalStateException.class, made);
    }

    static void same(String what, String want, String got) {
        if (!got.equals(want)) {
            tell(what, got, want);
        }
    }

    static void isTrue(String what, boolean holds) {
        if (!holds) {
            tell(what, "false", "true");
        }
    }

    static void end() {
        if (wrong > 0) {
            System.out.println(wrong + " answers are not as due");
            System.exit(1);
        }
    }

    private static void tell(String call, String got, String want) {
        wrong++;
        if (wrong <= 50) {
            System.out.println(call + " answered " + got + ", due is " + want);
        }
    }
}

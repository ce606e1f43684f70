/**
 * "An object is used for at most 512 calls after it has been made": long runs of one kind, to the last of these calls,
 * and several objects at once, which know nothing of one another.
 */
final class EdgeCallsTest {
    private static final int CALLS = 512;

    public static void main(String[] args) {
        hoursToTheLastCall();
        roadsToTheLastCall();
        actionsToTheLastCall();
        refusedToTheLastCall();
        actionAndUndoInTurn();
        textsToTheLastCall();
        loadsToTheLastCall();
        slotsToTheLastCall();
        scriptsToTheLastCall();
        simulationsToTheLastCall();
        exceptionsToTheLastCall();
        objectsAreApart();
        sameCallsSameAnswers();
        Check.end();
    }

    /** "The time (0 at first) becomes 1 more.": as far as it can go */
    private static void hoursToTheLastCall() {
        FadingSheets x = new FadingSheets();
        for (int i = 1; i < CALLS; i++) {
            Check.due("hours(60)", 0, () -> x.hours(60));
        }
        Check.due("about(5)", 60 * (CALLS - 1), () -> x.about(5));
    }

    /** "the hours on roads so far": as far as they can go */
    private static void roadsToTheLastCall() {
        FadingSheets x = new FadingSheets();
        x.town();
        x.town();
        x.road(0, 1, 20);
        x.runner(0);
        int ways = (CALLS - 6) / 2;
        for (int i = 1; i <= ways; i++) {
            int to = i % 2;
            Check.due("go(0, 0)", to, () -> x.go(0, 0));
            Check.due("hours(20)", 1, () -> x.hours(20));
        }
        Check.due("runnerOf(0, 3)", 20 * ways, () -> x.runnerOf(0, 3));
        Check.due("about(5)", 20 * ways, () -> x.about(5));
    }

    /** "At most 14 states are remembered": behind all actions that there can be */
    private static void actionsToTheLastCall() {
        FadingSheets x = new FadingSheets();
        int actions = CALLS - 16;
        for (int i = 1; i <= actions; i++) {
            x.hours(1);
        }
        for (int left = 13; left >= 0; left--) {
            Check.due("undo()", left, x::undo);
        }
        Check.notNow("undo()", x::undo);
        Check.due("about(5)", actions - 14, () -> x.about(5));
    }

    /** "how often copy() and proof() were refused so far": as often as there are calls */
    private static void refusedToTheLastCall() {
        FadingSheets x = new FadingSheets();
        x.town();
        x.write(0, 5, 5);
        for (int i = 3; i < CALLS; i++) {
            Check.due("copy(0, 0)", 3, () -> x.copy(0, 0));
        }
        Check.due("about(8)", CALLS - 3, () -> x.about(8));
    }

    /** "Takes back the last action that is remembered.": each time the one before */
    private static void actionAndUndoInTurn() {
        FadingSheets x = new FadingSheets();
        for (int i = 1; i < CALLS / 2; i++) {
            Check.due("town()", 0, x::town);
            Check.due("undo()", 0, x::undo);
        }
        Check.notNow("undo()", x::undo);
        Check.due("about(0)", 0, () -> x.about(0));
    }

    /** "a text buffer of at most 120 characters": filled and emptied as often as there are calls */
    private static void textsToTheLastCall() {
        FadingSheets x = new FadingSheets();
        for (int i = 0; i < CALLS; i++) {
            int length = i % 122;
            if (length < 120) {
                Check.due("append(70)", length + 1, () -> x.append(70));
            } else if (length == 120) {
                Check.notNow("append(70)", () -> x.append(70));
            } else {
                Check.due("clearText()", 120, x::clearText);
            }
        }
    }

    /** "Makes everything as in a new object": each time */
    private static void loadsToTheLastCall() {
        FadingSheets x = new FadingSheets();
        for (char sign : "Ftu0w01234561".toCharArray()) {
            x.append(sign);
        }
        for (int i = 14; i < CALLS; i++) {
            Check.due("load()", 0, x::load);
        }
        Check.due("about(4)", 1, () -> x.about(4));
    }

    /** "Replaces the state by the one in a save slot": each time */
    private static void slotsToTheLastCall() {
        FadingSheets x = new FadingSheets();
        x.save(0);
        for (int i = 1; i <= 127; i++) {
            int time = i;
            x.hours(1);
            Check.due("save(1)", time, () -> x.save(1));
            Check.due("restore(0)", 0, () -> x.restore(0));
            Check.due("restore(1)", time, () -> x.restore(1));
        }
    }

    /** "Runs a script on a copy of the state.": each time the same one */
    private static void scriptsToTheLastCall() {
        FadingSheets x = new FadingSheets();
        x.town();
        x.runner(0);
        x.write(0, 0, 1);
        for (int i = 4; i <= CALLS; i++) {
            Check.due("runScript(3, 100005006070039)", -1, () -> x.runScript(3, 100005006070039L));
        }
    }

    /** "Simulates m turns on a copy of the state.": each time the same one */
    private static void simulationsToTheLastCall() {
        FadingSheets x = new FadingSheets();
        x.town();
        x.runner(0);
        x.write(0, 0, 1);
        FadingSheets other = new FadingSheets();
        other.town();
        other.runner(0);
        other.write(0, 0, 1);
        int want = other.simulate(5, 60);
        for (int i = 4; i <= CALLS; i++) {
            Check.due("simulate(5, 60)", want, () -> x.simulate(5, 60));
        }
    }

    /** "A call that throws an exception changes nothing.": as many of them as there can be */
    private static void exceptionsToTheLastCall() {
        FadingSheets x = new FadingSheets();
        for (int i = 1; i < CALLS; i += 5) {
            Check.noSuch("runner(0)", () -> x.runner(0));
            Check.outOfRange("hours(0)", () -> x.hours(0));
            Check.notNow("undo()", x::undo);
            Check.notNow("load()", x::load);
            Check.notNow("restore(0)", () -> x.restore(0));
        }
        Check.due("town()", 0, x::town);
    }

    /** "Creates a country without towns.": whatever other objects hold */
    private static void objectsAreApart() {
        FadingSheets x = Texts.loaded("Fttr0103u0w02718289k000g00h01");
        x.save(0);
        x.copy(0, 0);
        String looks = Looks.all(x);
        FadingSheets y = new FadingSheets();
        for (int what = 0; what <= 9; what++) {
            int which = what;
            Check.due("about(" + what + ") of another object", 0, () -> y.about(which));
        }
        Check.notNow("restore(0) of another object", () -> y.restore(0));
        Check.notNow("undo() of another object", y::undo);
        Check.due("clearText() of another object", 0, y::clearText);
        Texts.put(y, "Ftttu2w21111111");
        y.load();
        y.hours(9);
        y.save(0);
        y.save(1);
        y.route(0, 1, 0);
        y.runScript(1, 50060);
        Check.same("all of the first object", looks, Looks.all(x));
        Check.due("route(0, 1, 0) of the first object", 3, () -> x.route(0, 1, 0));
        Check.notNow("restore(1) of the first object", () -> x.restore(1));
        Check.due("undo() of the first object", 0, x::undo);
        Check.due("restore(0) of the first object", 1, () -> x.restore(0));
        Check.due("clearText() of the first object", 29, x::clearText);
        Check.due("restore(1) of another object", 9, () -> y.restore(1));
    }

    /** Calls made in turn on two objects answer the same on both. */
    private static void sameCallsSameAnswers() {
        FadingSheets x = Texts.loaded("Fttr0103u0u1w02718289k000");
        FadingSheets y = Texts.loaded("Fttr0103u0u1w02718289k000");
        Check.Call[][] calls = {
            {() -> x.go(0, 0), () -> y.go(0, 0)}, {() -> x.hours(7), () -> y.hours(7)},
            {() -> x.copy(0, 4), () -> y.copy(0, 4)}, {() -> x.save(0), () -> y.save(0)},
            {() -> x.hours(60), () -> y.hours(60)}, {() -> x.simulate(7, 60), () -> y.simulate(7, 60)},
            {x::undo, y::undo}, {() -> x.restore(0), () -> y.restore(0)}, {() -> x.rightFor(0), () -> y.rightFor(0)},
        };
        for (int i = 0; i < calls.length; i++) {
            Check.due("call " + i, calls[i][0].answer(), calls[i][1]);
            Check.same("all behind call " + i, Looks.all(x), Looks.all(y));
        }
    }
}

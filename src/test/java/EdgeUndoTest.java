import java.util.Arrays;

/** Promise 21, and the bounds of "Actions and undo" and of "Exceptions". */
final class EdgeUndoTest {
    public static void main(String[] args) {
        undoOfNone();
        undoIsNone();
        fourteenStates();
        theOldestForgotten();
        roundAndRound();
        actionsBehindUndo();
        refusedOnesAreActions();
        whatThrowsIsNone();
        questionsAreNone();
        textAndSlotsAreKept();
        wholeStatesComeBack();
        allFourteenStatesComeBack();
        Check.end();
    }

    /** "IllegalStateException if none is remembered" */
    private static void undoOfNone() {
        new Run().notNow("undo()").due("town()", 0).due("undo()", 0).notNow("undo()").due("about(0)", 0);
        Run.full().notNow("undo()");
    }

    /** "(undo is none)": it cannot be taken back */
    private static void undoIsNone() {
        Run run = Run.of("town()", "town()", "town()").due("undo()", 2).due("about(0)", 2).due("undo()", 1);
        run.due("about(0)", 1).due("undo()", 0).due("about(0)", 0).notNow("undo()");
    }

    private static Run afterHours(int count) {
        Run run = new Run();
        for (int i = 1; i <= count; i++) {
            run.does("hours(" + i + ")");
        }
        return run;
    }

    /** "At most 14 states are remembered": 13, 14, and 15 */
    private static void fourteenStates() {
        for (int count = 1; count <= 16; count++) {
            Run run = afterHours(count);
            int remembered = Math.min(14, count);
            int time = count * (count + 1) / 2;
            for (int i = 1; i <= remembered; i++) {
                time -= count - i + 1;
                run.due("undo()", remembered - i).due("about(5)", time);
            }
            run.notNow("undo()").due("about(5)", count == 15 ? 1 : count == 16 ? 3 : 0);
        }
    }

    /** "when one more is remembered, the oldest one is forgotten" */
    private static void theOldestForgotten() {
        Run run = afterHours(14).does("town()").due("undo()", 13).due("about(0)", 0).does("town()").due("undo()", 13);
        for (int left = 12; left >= 0; left--) {
            run.due("undo()", left);
        }
        run.notNow("undo()").due("about(5)", 1).due("about(0)", 0);
        Run fourteenth = afterHours(13).does("town()").due("undo()", 13).does("town()", "town()");
        fourteenth.due("undo()", 13).due("undo()", 12).due("about(5)", 91);
    }

    /** The same, with many more actions than are remembered */
    private static void roundAndRound() {
        Run run = new Run();
        for (int i = 1; i <= 100; i++) {
            run.does("hours(1)");
        }
        for (int left = 13; left >= 0; left--) {
            run.due("undo()", left).due("about(5)", 86 + left);
        }
        run.notNow("undo()");
        for (int i = 1; i <= 40; i++) {
            run.does("hours(2)");
        }
        run.due("undo()", 13).due("about(5)", 164).does("hours(3)", "hours(4)").due("undo()", 13).due("about(5)", 167);
        run.due("undo()", 12).due("about(5)", 164).due("undo()", 11).due("about(5)", 162);
    }

    /** "Takes back the last action that is remembered.": those behind an undo are the last ones then */
    private static void actionsBehindUndo() {
        Run run = afterHours(5).due("undo()", 4).due("undo()", 3).does("town()").due("undo()", 3).due("about(5)", 6);
        run.due("about(0)", 0).due("undo()", 2).due("about(5)", 3).does("hours(10)", "town()").due("about(5)", 13);
        run.due("undo()", 3).due("undo()", 2).due("about(5)", 3).due("undo()", 1).due("undo()", 0).notNow("undo()");
    }

    /** "Each call of one of them that does not throw an exception is an action, also if nothing becomes different" */
    private static void refusedOnesAreActions() {
        Run run = Run.loaded("Ftu0w00000000c000c000k000k001k002").due("copy(0, 0)", 3).due("undo()", 0);
        run.notNow("undo()").due("about(8)", 0).due("copy(0, 0)", 3).due("copy(1, 0)", 3).due("about(8)", 2);
        run.due("undo()", 1).due("about(8)", 1).due("undo()", 0).due("about(8)", 0).notNow("undo()");
        Run proof = Run.loaded("Ftu0w00000009c009c009h11").due("proof(0, 1, 2, 0)", 2).due("about(8)", 1);
        proof.due("undo()", 0).due("about(8)", 0).notNow("undo()");
        Run forgets = afterHours(1).does("town()", "write(0, 0, 0)");
        for (int i = 1; i <= 12; i++) {
            forgets.due("copy(0, 0)", 3);
        }
        for (int left = 13; left >= 0; left--) {
            forgets.due("undo()", left);
        }
        forgets.notNow("undo()").due("about(5)", 1).due("about(0)", 0);
    }

    /** "A call that throws an exception changes nothing.": nor does it forget the oldest of 14 states */
    private static void whatThrowsIsNone() {
        Run run = afterHours(14).noSuch("road(0, 0, 0)", "runner(0)", "write(0, 0, 0)", "take(0, 0)", "lay(0)",
                "go(0, 0)", "copy(0, 0)", "proof(0, 1, 2, 0)").outOfRange("hours(0)", "hours(61)");
        run.notNow("load()", "restore(0)").noSuch("restore(2)", "save(2)").outOfRange("append(256)", "about(10)");
        for (int left = 13; left >= 0; left--) {
            run.due("undo()", left);
        }
        run.notNow("undo()").due("about(5)", 0);
        Run full = Run.full().does("hours(1)").notNow("town()", "road(0, 1, 1)", "runner(0)", "write(0, 0, 0)");
        full.due("undo()", 0).notNow("undo()");
    }

    /** "these and all following methods up to the save slots change nothing": they are no actions */
    private static void questionsAreNone() {
        Run run = Run.loaded("Fttr0102u0w00000009k000").does("hours(1)").due("why(0)", 3).due("errorsIn(0, 200)", 6);
        run.due("rightFor(0)", 6).due("route(0, 1, 0)", 2).due("route(0, 1, 1)", 2).due("roadTo(0, 1)", 0);
        run.due("ifBrought(0, 1)", 0).due("best(0)", 0).due("runScript(2, 3000050060)", -1).does("simulate(5, 60)");
        run.due("about(5)", 1).due("roadOf(0, 0)", 0).due("message(0)", 0).due("errorPosition()", -1);
        run.due("undo()", 0).notNow("undo()").due("about(5)", 0).due("about(8)", 0);
    }

    /** "the state, which consists of everything but the text and the save slots" */
    private static void textAndSlotsAreKept() {
        Run run = Run.of("town()", "append(70)", "save(0)", "town()", "append(116)", "save(1)").due("undo()", 1);
        run.due("undo()", 0).notNow("undo()").due("about(0)", 0).due("errorPosition()", -1);
        run.due("restore(1)", 0).due("about(0)", 2).due("restore(0)", 0).due("about(0)", 1).due("clearText()", 2);
        Run kept = Run.of("town()", "append(70)").due("clearText()", 1).due("undo()", 0).due("clearText()", 0);
        kept.does("hours(3)", "save(0)", "undo()").due("restore(0)", 3);
    }

    /** "Before each action, the state is remembered.": each action taken back, also in a full country */
    private static void wholeStatesComeBack() {
        String text = "Fttr0103u0u0w01234569c003c002k003h05k000";
        String[] actions = {"town()", "road(1, 0, 20)", "runner(1)", "write(1, 999999, 9)", "take(1, 1)", "take(1, 0)",
            "lay(0)", "go(0, 0)", "go(1, 0)", "copy(1, 9)", "proof(2, 1, 0, 9)",
            "hours(1)", "hours(60)"};
        String before = Run.loaded(text).looks();
        for (String action : actions) {
            Run run = Run.loaded(text).does(action);
            Check.isTrue(action + " makes something different", !before.equals(run.looks()));
            Check.same(action + ", taken back", before, run.due("undo()", 0).looks());
        }
        String full = Run.full().looks();
        for (String action : new String[] {"go(0, 0)", "go(4, 9)", "take(4, 4)", "hours(60)", "copy(0, 0)"}) {
            Check.same(action + ", taken back", full, Run.full().does(action).due("undo()", 0).looks());
        }
    }

    /** "At most 14 states are remembered": each of them as it was, behind actions that build one on the other */
    private static void allFourteenStatesComeBack() {
        String[] actions = {"town()", "town()", "road(0, 1, 2)", "runner(0)", "write(0, 123456, 9)", "copy(0, 9)",
            "copy(1, 8)", "take(0, 1)", "hours(7)", "proof(0, 1, 2, 1)", "go(0, 0)", "copy(1, 1)", "hours(1)",
                    "hours(1)",
            "lay(1)"};
        for (int back = 1; back <= 14; back++) {
            Run run = Run.of(actions);
            for (int i = 1; i <= back; i++) {
                run.due("undo()", 14 - i);
            }
            String[] kept = Arrays.copyOf(actions, actions.length - back);
            Check.same("behind " + back + " times undo()", Run.of(kept).looks(), run.looks());
        }
    }
}

/** The bounds of promises 31 and 32: save and restore. */
final class EdgeSlotTest {
    private static final String MIN = String.valueOf(Integer.MIN_VALUE);
    private static final String MAX = String.valueOf(Integer.MAX_VALUE);

    public static void main(String[] args) {
        noSuchSlot();
        nothingSaved();
        nothingSavedSinceTheLastLoad();
        theTime();
        emptyAndFull();
        slotsAreApart();
        saveIsNoAction();
        restoreForgetsStates();
        restoreIsNoAction();
        theSlotKeepsIt();
        whatIsNewBehindRestore();
        savedOver();
        theTextIsKept();
        refusedOnesAreSaved();
        Check.end();
    }

    /** "IndexOutOfBoundsException if there is no such save slot": they are 0 and 1 */
    private static void noSuchSlot() {
        Run run = Run.of("hours(1)").noSuch("save(-1)", "save(2)", "save(" + MIN + ")", "save(" + MAX + ")");
        run.noSuch("restore(-1)", "restore(2)", "restore(" + MIN + ")", "restore(" + MAX + ")");
        run.due("save(0)", 1).due("save(1)", 1).noSuch("save(2)", "save(-1)", "restore(2)", "restore(-1)");
        run.due("restore(0)", 1).due("restore(1)", 1);
    }

    /** "IllegalStateException if nothing has been saved in it" */
    private static void nothingSaved() {
        Run run = new Run().notNow("restore(0)", "restore(1)").does("save(1)").notNow("restore(0)")
                .due("restore(1)", 0);
        run.does("hours(2)").notNow("restore(0)").due("save(0)", 2).due("restore(0)", 2).due("restore(1)", 0);
        Run.of("town()", "save(0)").notNow("restore(1)").due("undo()", 0);
    }

    /** "since the last load" */
    private static void nothingSavedSinceTheLastLoad() {
        Run run = Run.of("save(0)", "save(1)").notNow("load()").due("restore(0)", 0).text("Fh07").due("load()", 0);
        run.notNow("restore(0)", "restore(1)").due("save(1)", 7).notNow("restore(0)").due("restore(1)", 7);
        run.due("load()", 0).notNow("restore(1)").due("save(0)", 7).due("restore(0)", 7);
        run.text("x").notNow("load()").due("restore(0)", 7);
    }

    /** "Returns the time."; "Returns the time then." */
    private static void theTime() {
        Run run = new Run().due("save(0)", 0).does("hours(60)").due("save(1)", 60).does("hours(1)")
                .due("restore(1)", 60);
        run.due("about(5)", 60).due("restore(0)", 0).due("about(5)", 0).due("restore(1)", 60).due("about(5)", 60);
    }

    /** "Stores the present state": a new object's, and a full one */
    private static void emptyAndFull() {
        Run empty = Run.of("save(1)", "town()", "runner(0)", "write(0, 5, 5)", "hours(9)").due("restore(1)", 0);
        Check.same("the empty country", new Run().looks(), empty.looks());
        Run full = Run.full().does("save(1)").text("F").does("load()").notNow("restore(1)");
        full.due("about(4)", 0);
        Run over = Run.full().does("hours(3)", "go(0, 0)", "take(4, 4)", "copy(0, 0)", "copy(5, 0)");
        Check.same("the full country", Run.full().looks(), over.due("restore(0)", 0).looks());
    }

    /** Each slot keeps its own state, and undo changes none. */
    private static void slotsAreApart() {
        Run run = Run.of("town()", "save(0)", "town()", "hours(5)", "save(1)", "town()").due("restore(0)", 0);
        run.due("about(0)", 1).due("restore(1)", 5).due("about(0)", 2).due("restore(0)", 0).due("about(0)", 1);
        Run undone = Run.of("town()", "hours(4)", "save(0)", "undo()", "undo()").due("restore(0)", 4)
                .due("about(0)", 1);
        undone.does("hours(1)", "undo()").due("restore(0)", 4);
    }

    /** save is not in the section "actions" */
    private static void saveIsNoAction() {
        Run run = Run.of("town()", "save(0)", "save(1)").due("undo()", 0).notNow("undo()").due("about(0)", 0);
        run.does("save(0)").notNow("undo()");
    }

    /** "and forgets all remembered states": none, one, and fourteen of them */
    private static void restoreForgetsStates() {
        Run run = Run.of("save(0)").due("restore(0)", 0).notNow("undo()").does("town()").due("restore(0)", 0);
        run.notNow("undo()");
        for (int i = 0; i < 15; i++) {
            run.does("hours(1)");
        }
        run.due("restore(0)", 0).notNow("undo()").due("about(5)", 0).does("town()").due("undo()", 0).notNow("undo()");
    }

    /** "load and restore are not actions." */
    private static void restoreIsNoAction() {
        Run run = Run.of("hours(2)", "save(1)", "hours(2)").due("restore(1)", 2).notNow("undo()").does("hours(7)");
        run.due("undo()", 0).due("about(5)", 2).notNow("undo()");
    }

    /** "The save slot keeps it.": also if the state becomes another one behind restore */
    private static void theSlotKeepsIt() {
        String text = "Fttr0103u0u0w01234569c003k000h07g00h01";
        Run run = Run.loaded(text).does("save(0)").due("restore(0)", 8).does("town()", "road(1, 2, 4)", "runner(2)");
        run.does("write(2, 5, 5)", "hours(60)", "lay(0)", "copy(1, 3)", "go(1, 0)", "hours(1)");
        run.due("restore(0)", 8);
        Check.same("restored again", Run.loaded(text).looks(), run.looks());
    }

    /** "Replaces the state": what is added then has nothing of what was there under its number */
    private static void whatIsNewBehindRestore() {
        String[] more = {"road(0, 1, 20)", "runner(0)", "write(0, 123456, 9)", "take(0, 0)", "go(0, 0)", "hours(3)"};
        String[] added = {"road(1, 0, 2)", "runner(1)", "write(1, 654321, 1)"};
        String[] towns = {"town()", "town()"};
        Run run = Run.of(towns).does("save(1)").does(more).due("restore(1)", 0).does(added);
        Check.same("added behind restore()", Run.of(towns).does(added).looks(), run.looks());
        run.due("runnerOf(0, 1)", 0).due("runnerOf(0, 3)", 0).due("sheetOf(0, 3)", -1).due("about(9)", 1);
    }

    /** "Stores the present state in a save slot.": in the place of the one before */
    private static void savedOver() {
        Run run = Run.of("town()", "hours(5)", "write(0, 7, 7)", "save(0)").text("Fttt").does("load()", "hours(1)");
        run.due("save(0)", 1).does("hours(1)").due("save(0)", 2).does("hours(1)").due("restore(0)", 2);
        run.due("about(0)", 3).due("about(4)", 0);
    }

    /** "the state, which consists of everything but the text and the save slots" */
    private static void theTextIsKept() {
        Run run = Run.of("append(70)", "save(0)", "append(116)").due("restore(0)", 0).due("errorPosition()", -1);
        run.due("clearText()", 2).due("restore(0)", 0).due("clearText()", 0);
        Run slots = Run.of("save(0)", "hours(1)", "save(1)").due("restore(0)", 0).due("restore(1)", 1);
        slots.due("restore(0)", 0);
    }

    /** How often copy() and proof() were refused is in the state too, and so in what is saved. */
    private static void refusedOnesAreSaved() {
        Run run = Run.loaded("Ftw00000000").due("copy(0, 0)", 3).does("save(0)").due("copy(0, 0)", 3)
                .due("about(8)", 2);
        run.due("restore(0)", 0).due("about(8)", 1).due("copy(0, 0)", 3).due("about(8)", 2).due("undo()", 0);
        run.due("about(8)", 1);
    }
}

/** The bounds of promises 1 and 6 to 10: a new object, about, roadOf, runnerOf, sheetOf, message. */
final class EdgeLookTest {
    private static final String MIN = String.valueOf(Integer.MIN_VALUE);
    private static final String MAX = String.valueOf(Integer.MAX_VALUE);

    public static void main(String[] args) {
        nothingInANewObject();
        noResult();
        aboutOutOfRange();
        aboutFull();
        aboutErrors();
        aboutRefused();
        aboutRunnersInTowns();
        roadsOutOfRange();
        roadsInTheOrderTold();
        runnersOutOfRange();
        runnersInTownsAndOnRoads();
        carriedAsASet();
        hoursOnRoads();
        sheetsOutOfRange();
        sheetsThatLieOrAreCarried();
        sheetsAsNumbers();
        messagesOutOfRange();
        Check.end();
    }

    /** "Creates a country without towns." */
    private static void nothingInANewObject() {
        Run run = new Run();
        for (int what = 0; what <= 9; what++) {
            run.due("about(" + what + ")", 0);
        }
        run.noSuch("roadOf(0, 0)", "runnerOf(0, 0)", "sheetOf(0, 0)", "message(0)", "road(0, 0, 1)", "runner(0)",
                "write(0, 0, 0)", "take(0, 0)", "lay(0)", "go(0, 0)", "copy(0, 0)", "proof(0, 0, 0, 0)", "why(0)",
                "errorsIn(0, 0)", "rightFor(0)", "route(0, 0, 0)", "roadTo(0, 0)", "ifBrought(0, 0)", "best(0)");
        run.notNow("undo()", "restore(0)", "restore(1)", "load()").due("errorPosition()", 0);
        run.due("runScript(1, 50001)", -1).due("save(0)", 0).due("town()", 0);
    }

    /** "NONE = -1: There is no such result." */
    private static void noResult() {
        Check.due("NONE", -1, () -> FadingSheets.NONE);
    }

    /** "IllegalArgumentException if what is not 0 to 9" */
    private static void aboutOutOfRange() {
        new Run().outOfRange("about(-1)", "about(10)", "about(" + MIN + ")", "about(" + MAX + ")");
        Run.full().outOfRange("about(-1)", "about(10)").due("about(0)", 6).due("about(9)", 31);
    }

    /** "0: the towns; 1: the roads; 2: the runners; 3: the messages; 4: the sheets; 5: the time", each at its most */
    private static void aboutFull() {
        int[] due = {6, 10, 5, 6, 12, 0, 0, 0, 0, 31};
        Run run = Run.full();
        for (int what = 0; what <= 9; what++) {
            run.due("about(" + what + ")", due[what]);
        }
        run.does("hours(60)").due("about(5)", 60).does("hours(60)").due("about(5)", 120);
    }

    /** "6: the errors of all sheets together; 7: the sheets that cannot be read", none and all */
    private static void aboutErrors() {
        Run run = Run.loaded("Ftu0w00000009" + "c009".repeat(11)).due("about(6)", 0).due("about(7)", 0);
        run.does("hours(7)").due("about(6)", 12).due("about(7)", 0).does("hours(3)").due("about(6)", 24);
        run.due("about(7)", 0).does("hours(1)").due("about(6)", 72).due("about(7)", 12);
        Run some = Run.loaded("Ftu0w00000009c008c000").does("hours(11)").due("about(6)", 8).due("about(7)", 1);
        some.does("hours(2)").due("about(6)", 12).due("about(7)", 2);
    }

    /** "8: how often copy() and proof() were refused so far", not why(), nor what throws an exception */
    private static void aboutRefused() {
        Run run = Run.loaded("Ftw00000000w00000000w00000000c000").due("about(8)", 0).due("copy(0, 0)", 3);
        run.due("about(8)", 1).due("copy(2, 0)", 3).due("about(8)", 2).noSuch("copy(3, 0)").outOfRange("copy(0, 10)");
        run.outOfRange("proof(0, 0, 0, 0)", "proof(0, 1, 2, 0)").due("why(0)", 3).due("runScript(1, 40000)", 0);
        run.due("about(8)", 2).does("runner(0)").due("copy(0, 0)", 0).due("copy(0, 0)", 0).due("about(8)", 2);
        run.due("proof(0, 3, 4, 0)", 0).due("about(8)", 2).does("town()");
        run.does("road(0, 1, 1)", "go(0, 0)").due("proof(0, 3, 4, 0)", 3).due("about(8)", 3)
                .due("proof(4, 0, 3, 0)", 3);
        run.due("about(8)", 4).due("undo()", 10).due("about(8)", 3);
        Run often = Run.loaded("Ftw00000000");
        for (int i = 1; i <= 100; i++) {
            often.does("copy(0, 0)");
        }
        often.due("about(8)", 100).due("about(4)", 1);
    }

    /** "9: the runners who are in a town, as a set (bit r for the runner r)" */
    private static void aboutRunnersInTowns() {
        Run run = Run.loaded("Fttr0101r0102" + "u0".repeat(5)).due("about(9)", 31).does("go(0, 0)").due("about(9)", 30);
        run.does("go(4, 1)").due("about(9)", 14).does("go(1, 1)", "go(2, 1)", "go(3, 1)").due("about(9)", 0);
        run.does("hours(1)").due("about(9)", 1).does("hours(1)").due("about(9)", 31);
        Run.loaded("Ft").due("about(9)", 0).does("runner(0)").due("about(9)", 1);
    }

    /** "IndexOutOfBoundsException if there is no such road"; "IllegalArgumentException if what is not 0 to 2" */
    private static void roadsOutOfRange() {
        Run run = Run.loaded("Ftt").noSuch("roadOf(0, 0)", "roadOf(0, 3)", "roadOf(-1, 0)").does("road(0, 1, 7)");
        run.noSuch("roadOf(-1, 0)", "roadOf(1, 0)", "roadOf(" + MIN + ", 0)", "roadOf(" + MAX + ", 0)");
        run.outOfRange("roadOf(0, -1)", "roadOf(0, 3)", "roadOf(0, " + MIN + ")", "roadOf(0, " + MAX + ")");
        run.noSuch("roadOf(1, 3)", "roadOf(-1, -1)", "roadOf(1, -1)").due("roadOf(0, 0)", 0).due("roadOf(0, 2)", 7);
        Run.full().noSuch("roadOf(10, 0)", "roadOf(-1, 2)").due("roadOf(9, 2)", 10).due("roadOf(9, 1)", 5);
    }

    /** "0 and 1: its towns, in the order in which they were told" */
    private static void roadsInTheOrderTold() {
        Run run = Run.of("town()", "town()", "town()", "road(2, 0, 3)", "road(0, 2, 4)", "road(1, 2, 5)");
        run.due("roadOf(0, 0)", 2).due("roadOf(0, 1)", 0).due("roadOf(1, 0)", 0).due("roadOf(1, 1)", 2);
        run.due("roadOf(2, 0)", 1).due("roadOf(2, 1)", 2).due("roadOf(2, 2)", 5);
        run.does("runner(0)", "go(0, 0)", "hours(3)").due("roadOf(0, 0)", 2).due("roadOf(0, 1)", 0);
    }

    /** "IndexOutOfBoundsException if there is no such runner"; "IllegalArgumentException if what is not 0 to 3" */
    private static void runnersOutOfRange() {
        Run run = Run.loaded("Ft").noSuch("runnerOf(0, 0)", "runnerOf(0, 4)", "runnerOf(-1, 0)").does("runner(0)");
        run.noSuch("runnerOf(-1, 0)", "runnerOf(1, 0)", "runnerOf(" + MIN + ", 0)", "runnerOf(" + MAX + ", 0)");
        run.outOfRange("runnerOf(0, -1)", "runnerOf(0, 4)", "runnerOf(0, " + MIN + ")", "runnerOf(0, " + MAX + ")");
        run.noSuch("runnerOf(1, 4)", "runnerOf(-1, -1)", "runnerOf(1, -1)").due("runnerOf(0, 3)", 0);
        Run.full().noSuch("runnerOf(5, 0)", "runnerOf(-1, 3)").due("runnerOf(4, 0)", 4);
    }

    /** "0: the town where the runner is, or to which the runner goes; 1: the hours left, 0 in a town" */
    private static void runnersInTownsAndOnRoads() {
        Run run = Run.loaded("Fttr0120u0").due("runnerOf(0, 0)", 0).due("runnerOf(0, 1)", 0).does("go(0, 0)");
        run.due("runnerOf(0, 0)", 1).due("runnerOf(0, 1)", 20).does("hours(19)");
        run.due("runnerOf(0, 0)", 1).due("runnerOf(0, 1)", 1).does("hours(1)");
        run.due("runnerOf(0, 0)", 1).due("runnerOf(0, 1)", 0).does("hours(1)").due("runnerOf(0, 1)", 0);
        run.does("go(0, 0)").due("runnerOf(0, 0)", 0).due("runnerOf(0, 1)", 20);
    }

    /** "2: the sheets that are carried, as a set (bit s for the sheet s)": none, 3 of them, the last one */
    private static void carriedAsASet() {
        Run run = Run.withSheets(12).does("runner(0)").due("runnerOf(0, 2)", 0).does("take(0, 11)", "take(1, 0)");
        run.due("runnerOf(0, 2)", 2048).due("runnerOf(1, 2)", 1).does("take(0, 0)", "take(0, 5)");
        run.due("runnerOf(0, 2)", 2081).due("runnerOf(1, 2)", 0).does("lay(11)").due("runnerOf(0, 2)", 33);
        run.does("lay(0)", "lay(5)").due("runnerOf(0, 2)", 0);
    }

    /** "3: the hours on roads so far": those of a road that is not at its end too, none in a town */
    private static void hoursOnRoads() {
        Run run = Run.loaded("Fttr0102u0h05").due("runnerOf(0, 3)", 0).does("go(0, 0)").due("runnerOf(0, 3)", 0);
        run.does("hours(1)").due("runnerOf(0, 3)", 1).does("hours(1)").due("runnerOf(0, 3)", 2);
        run.does("hours(1)").due("runnerOf(0, 3)", 2).does("go(0, 0)").due("runnerOf(0, 3)", 2);
        run.does("hours(60)").due("runnerOf(0, 3)", 4);
    }

    /** "IndexOutOfBoundsException if there is no such sheet"; "IllegalArgumentException if what is not 0 to 7" */
    private static void sheetsOutOfRange() {
        Run run = Run.loaded("Ft").noSuch("sheetOf(0, 0)", "sheetOf(0, 8)", "sheetOf(-1, 0)").does("write(0, 5, 5)");
        run.noSuch("sheetOf(-1, 0)", "sheetOf(1, 0)", "sheetOf(" + MIN + ", 0)", "sheetOf(" + MAX + ", 0)");
        run.outOfRange("sheetOf(0, -1)", "sheetOf(0, 8)", "sheetOf(0, " + MIN + ")", "sheetOf(0, " + MAX + ")");
        run.noSuch("sheetOf(1, 8)", "sheetOf(-1, -1)", "sheetOf(1, -1)").due("sheetOf(0, 7)", 5);
        Run.full().noSuch("sheetOf(12, 0)", "sheetOf(-1, 7)").due("sheetOf(11, 2)", 5).due("sheetOf(11, 0)", 0);
    }

    /** "3: the runner who carries it, NONE if it lies; 4: the town where it is, NONE if it is in none" */
    private static void sheetsThatLieOrAreCarried() {
        Run run = Run.loaded("Fttr0102u1u0w00000000").due("sheetOf(0, 3)", -1).due("sheetOf(0, 4)", 0);
        run.does("take(1, 0)").due("sheetOf(0, 3)", 1).due("sheetOf(0, 4)", 0).does("go(1, 0)");
        run.due("sheetOf(0, 3)", 1).due("sheetOf(0, 4)", -1).does("hours(1)").due("sheetOf(0, 4)", -1);
        run.does("hours(1)").due("sheetOf(0, 4)", 1).due("sheetOf(0, 3)", 1).does("take(0, 0)");
        run.due("sheetOf(0, 3)", 0).due("sheetOf(0, 4)", 1).does("lay(0)").due("sheetOf(0, 3)", -1);
        run.due("sheetOf(0, 4)", 1);
    }

    /** "6: its digits as written, as a number; 7: what is read of it, as a number, NONE if it cannot be read" */
    private static void sheetsAsNumbers() {
        Run run = Run.loaded("Ftu0w00000019w09999999w00000000");
        run.due("sheetOf(0, 6)", 1).due("sheetOf(0, 7)", 1).due("sheetOf(1, 6)", 999999).due("sheetOf(1, 7)", 999999);
        run.due("sheetOf(2, 6)", 0).due("sheetOf(2, 7)", 0).does("hours(7)");
        run.due("sheetOf(0, 6)", 1).due("sheetOf(0, 7)", 100001).due("sheetOf(1, 7)", 99999).does("hours(3)");
        run.due("sheetOf(0, 7)", 102).due("sheetOf(1, 7)", 999090).does("hours(1)");
        run.due("sheetOf(0, 6)", 1).due("sheetOf(0, 7)", -1).due("sheetOf(1, 6)", 999999).due("sheetOf(1, 7)", -1);
        run.due("sheetOf(0, 5)", 6).due("sheetOf(2, 7)", 0).due("sheetOf(2, 5)", 0).due("sheetOf(1, 0)", 1);
    }

    /** "IndexOutOfBoundsException if there is no such message" */
    private static void messagesOutOfRange() {
        Run run = Run.loaded("Ft").noSuch("message(0)", "message(-1)").does("write(0, 0, 0)", "write(0, 999999, 0)");
        run.due("message(0)", 0).due("message(1)", 999999);
        run.noSuch("message(2)", "message(-1)", "message(" + MIN + ")", "message(" + MAX + ")");
        Run.full().due("message(5)", 555555).noSuch("message(6)", "message(11)");
    }
}

/** The bounds of promises 11 to 20: the actions and the exceptions of each, in their order. */
final class EdgeActionTest {
    private static final String MIN = String.valueOf(Integer.MIN_VALUE);
    private static final String MAX = String.valueOf(Integer.MAX_VALUE);

    public static void main(String[] args) {
        townIfThereAreSix();
        roadToNoTown();
        roadOutOfRange();
        roadIfThereAreTen();
        roadExceptionsInOrder();
        runnerInNoTown();
        runnerIfThereAreFive();
        writeInNoTown();
        writeOutOfRange();
        writeIfThereAreSixMessages();
        writeIfThereAreTwelveSheets();
        writeExceptionsInOrder();
        takeOfNoSuch();
        takeOnARoad();
        takeInAnotherTown();
        takeOfWhatIsCarried();
        takeOfAFourth();
        layOfNoSuch();
        layInNoTown();
        layOfWhatLies();
        goOfNoSuch();
        goOnARoad();
        goFromAnotherTown();
        goBothWays();
        copyOfNoSuch();
        copyOutOfRange();
        copyRefused();
        proofOfNoSuch();
        proofOutOfRange();
        proofOfUnlikeMessages();
        proofRefused();
        hoursOutOfRange();
        hoursLeastAndMost();
        Check.end();
    }

    /** Promise 11: "IllegalStateException if there are 6" */
    private static void townIfThereAreSix() {
        Run.loaded("Fttttt").due("town()", 5).notNow("town()").due("undo()", 0).due("town()", 5).notNow("town()");
        Run.full().notNow("town()");
    }

    /** Promise 12: "IndexOutOfBoundsException if there is no such town" */
    private static void roadToNoTown() {
        Run run = Run.loaded("Ftt").noSuch("road(-1, 0, 1)", "road(0, -1, 1)", "road(2, 0, 1)", "road(0, 2, 1)");
        run.noSuch("road(" + MIN + ", 0, 1)", "road(0, " + MAX + ", 1)", "road(6, 0, 1)", "road(-1, -1, 1)");
        run.due("road(1, 0, 1)", 0).does("town()").due("road(0, 2, 1)", 1);
        Run.full().noSuch("road(6, 0, 1)", "road(0, 6, 1)");
    }

    /** Promise 12: "IllegalArgumentException if both towns are the same, or hours is out of range" */
    private static void roadOutOfRange() {
        Run run = Run.loaded("Ftt").outOfRange("road(0, 0, 1)", "road(1, 1, 1)", "road(0, 1, 0)", "road(0, 1, 21)");
        run.outOfRange("road(1, 0, -1)", "road(0, 1, " + MIN + ")", "road(0, 1, " + MAX + ")", "road(0, 0, 0)");
        run.due("road(0, 1, 1)", 0).due("road(0, 1, 20)", 1);
    }

    /** Promise 12: "IllegalStateException if there are 10" */
    private static void roadIfThereAreTen() {
        Run run = Run.loaded("Ftt" + "r0101".repeat(9)).due("road(0, 1, 20)", 9).notNow("road(0, 1, 20)");
        run.notNow("road(1, 0, 1)").due("undo()", 0).due("road(1, 0, 3)", 9).due("roadOf(9, 0)", 1);
    }

    /** Promise 12: the exception that is named first, where there are 10 roads too */
    private static void roadExceptionsInOrder() {
        Run run = Run.full().noSuch("road(6, 6, 0)", "road(-1, 0, 21)", "road(0, 6, 1)", "road(6, 6, 1)");
        run.outOfRange("road(0, 0, 1)", "road(0, 1, 0)", "road(0, 1, 21)").notNow("road(0, 1, 1)");
        Run.loaded("Ft").noSuch("road(1, 1, 1)", "road(0, 1, 0)", "road(1, 0, 0)").outOfRange("road(0, 0, 0)");
    }

    /** Promise 13: "IndexOutOfBoundsException if there is no such town", where there are 5 runners too */
    private static void runnerInNoTown() {
        Run run = Run.loaded("Ft").noSuch("runner(-1)", "runner(1)", "runner(" + MIN + ")", "runner(" + MAX + ")");
        run.due("runner(0)", 0).does("town()").due("runner(1)", 1);
        Run.full().noSuch("runner(6)", "runner(-1)");
    }

    /** Promise 13: "IllegalStateException if there are 5" */
    private static void runnerIfThereAreFive() {
        Run run = Run.loaded("Ftt" + "u0".repeat(4)).due("runner(1)", 4).notNow("runner(0)", "runner(1)");
        run.due("undo()", 0).due("runner(0)", 4).notNow("runner(0)").due("runnerOf(4, 0)", 0);
    }

    /** Promise 14: "IndexOutOfBoundsException if there is no such town" */
    private static void writeInNoTown() {
        Run run = Run.loaded("Ft").noSuch("write(-1, 0, 0)", "write(1, 0, 0)", "write(" + MIN + ", 0, 0)");
        run.noSuch("write(" + MAX + ", 0, 0)", "write(6, 0, 0)").due("write(0, 0, 0)", 0);
        run.does("town()").due("write(1, 0, 0)", 1).due("sheetOf(1, 4)", 1);
    }

    /** Promise 14: "IllegalArgumentException if digits or fade is out of range" */
    private static void writeOutOfRange() {
        Run run = Run.loaded("Ft").outOfRange("write(0, -1, 0)", "write(0, 1000000, 0)", "write(0, " + MIN + ", 0)");
        run.outOfRange("write(0, " + MAX + ", 0)", "write(0, 0, -1)", "write(0, 0, 10)", "write(0, -1, 10)");
        run.outOfRange("write(0, 0, " + MIN + ")", "write(0, 0, " + MAX + ")");
        run.due("write(0, 0, 0)", 0).due("write(0, 999999, 9)", 1).due("message(1)", 999999).due("sheetOf(1, 2)", 9);
    }

    /** Promise 14: "IllegalStateException if there are 6 messages" */
    private static void writeIfThereAreSixMessages() {
        Run run = Run.loaded("Ft" + "w00000000".repeat(5)).due("write(0, 1, 1)", 5).notNow("write(0, 1, 1)");
        run.due("about(4)", 6).due("undo()", 0).due("write(0, 2, 2)", 5).notNow("write(0, 2, 2)");
    }

    /** Promise 14: "IllegalStateException if there are ... 12 sheets" */
    private static void writeIfThereAreTwelveSheets() {
        Run run = Run.withSheets(11).due("write(0, 1, 1)", 1).notNow("write(0, 1, 1)").due("about(3)", 2);
        run.due("undo()", 0).does("copy(0, 0)").notNow("write(0, 1, 1)").due("about(3)", 1);
    }

    /** Promise 14: the exception that is named first, where there are 6 messages and 12 sheets too */
    private static void writeExceptionsInOrder() {
        Run run = Run.full().noSuch("write(6, -1, 10)", "write(-1, 0, 0)", "write(6, 0, 10)");
        run.outOfRange("write(0, -1, 0)", "write(0, 1000000, 0)", "write(0, 0, -1)", "write(0, 0, 10)");
        run.notNow("write(0, 0, 0)");
        Run.loaded("Ft").noSuch("write(1, 1000000, 0)", "write(1, 0, 10)", "write(-1, -1, -1)");
    }

    /** Promise 15: "IndexOutOfBoundsException if there is no such runner or sheet" */
    private static void takeOfNoSuch() {
        Run run = Run.loaded("Ftu0w00000000");
        run.noSuch("take(-1, 0)", "take(1, 0)", "take(0, -1)", "take(0, 1)", "take(" + MIN + ", 0)");
        run.noSuch("take(" + MAX + ", 0)", "take(0, " + MIN + ")", "take(0, " + MAX + ")", "take(1, 1)");
        run.due("take(0, 0)", 1).noSuch("take(0, 1)", "take(1, 0)");
        Run.full().noSuch("take(5, 0)", "take(0, 12)", "take(-1, 11)", "take(4, -1)").due("take(4, 4)", 1);
        Run.loaded("Fttr0105u0w00000000g00").noSuch("take(0, 1)", "take(1, 0)").notNow("take(0, 0)");
    }

    /** Promise 15: "IllegalStateException if the runner is on a road" */
    private static void takeOnARoad() {
        Run run = Run.loaded("Fttr0102u0u0w00000000w10000000k000g00").notNow("take(0, 0)", "take(0, 1)");
        run.notNow("take(1, 0)", "take(1, 1)").does("hours(1)").notNow("take(0, 0)", "take(0, 1)", "take(1, 0)");
        run.does("hours(1)").notNow("take(0, 0)", "take(1, 0)").due("take(0, 1)", 2);
        Run together = Run.loaded("Fttr0102u0u0w00000000k000g00g10").notNow("take(1, 0)").does("hours(2)");
        together.due("take(1, 0)", 1);
    }

    /** Promise 15: "the sheet is not in that town" */
    private static void takeInAnotherTown() {
        Run run = Run.loaded("Fttu0u1w00000000w10000000").notNow("take(1, 0)", "take(0, 1)");
        run.due("take(0, 0)", 1).notNow("take(1, 0)").due("take(1, 1)", 1).notNow("take(0, 1)");
    }

    /** Promise 15: "or is carried by another one there"; "the runner carries it" */
    private static void takeOfWhatIsCarried() {
        Run run = Run.loaded("Ftu0u0w00000000").due("take(0, 0)", 1).notNow("take(0, 0)").due("take(1, 0)", 1);
        run.notNow("take(1, 0)").due("runnerOf(0, 2)", 0).due("runnerOf(1, 2)", 1).due("take(0, 0)", 1);
        run.due("sheetOf(0, 3)", 0);
    }

    /** Promise 15: "or carries 3"; "Returns how many sheets the runner carries then." */
    private static void takeOfAFourth() {
        Run run = Run.withSheets(4).due("take(0, 3)", 1).due("take(0, 1)", 2).due("take(0, 0)", 3).notNow("take(0, 2)");
        run.does("runner(0)").due("take(1, 2)", 1).notNow("take(0, 2)", "take(0, 0)").due("lay(0)", 0);
        run.due("take(0, 2)", 3).notNow("take(0, 0)");
    }

    /** Promise 16: "IndexOutOfBoundsException if there is no such sheet" */
    private static void layOfNoSuch() {
        Run run = Run.loaded("Ftu0w00000000k000").noSuch("lay(-1)", "lay(1)", "lay(" + MIN + ")", "lay(" + MAX + ")");
        run.due("lay(0)", 0);
        Run.full().noSuch("lay(12)", "lay(-1)").notNow("lay(11)");
    }

    /** Promise 16: "IllegalStateException if it is in no town"; "Returns that town." */
    private static void layInNoTown() {
        Run run = Run.loaded("Fttr0102u0w00000000k000g00").notNow("lay(0)").does("hours(1)").notNow("lay(0)");
        run.does("hours(1)").due("lay(0)", 1).due("sheetOf(0, 4)", 1).due("runnerOf(0, 2)", 0);
    }

    /** Promise 16: "or lies" */
    private static void layOfWhatLies() {
        Run.loaded("Ftu0w00000000").notNow("lay(0)").does("take(0, 0)").due("lay(0)", 0).notNow("lay(0)");
    }

    /** Promise 17: "IndexOutOfBoundsException if there is no such runner or road" */
    private static void goOfNoSuch() {
        Run run = Run.loaded("Fttr0102u0").noSuch("go(-1, 0)", "go(1, 0)", "go(0, -1)", "go(0, 1)", "go(1, 1)");
        run.noSuch("go(" + MIN + ", 0)", "go(" + MAX + ", 0)", "go(0, " + MIN + ")", "go(0, " + MAX + ")");
        run.due("go(0, 0)", 1).noSuch("go(1, 0)", "go(0, 1)").notNow("go(0, 0)");
        Run.full().noSuch("go(5, 0)", "go(0, 10)", "go(-1, 9)", "go(4, -1)").due("go(4, 9)", 5);
    }

    /** Promise 17: "IllegalStateException if the runner is on a road" */
    private static void goOnARoad() {
        Run run = Run.loaded("Fttr0102u0g00").notNow("go(0, 0)").does("hours(1)").notNow("go(0, 0)");
        run.does("hours(1)").due("go(0, 0)", 0).notNow("go(0, 0)");
    }

    /** Promise 17: "or this one does not begin or end in that town" */
    private static void goFromAnotherTown() {
        Run run = Run.loaded("Ftttr1201r0101u0").notNow("go(0, 0)").due("go(0, 1)", 1).does("hours(1)");
        run.due("go(0, 0)", 2).does("hours(1)").notNow("go(0, 1)").due("go(0, 0)", 1);
    }

    /** Promise 17: "begin or end"; "Returns the town to which the runner goes." */
    private static void goBothWays() {
        Run run = Run.loaded("Fttttttr5020u0u5").due("go(0, 0)", 5).due("go(1, 0)", 0).due("hours(20)", 2);
        run.due("runnerOf(0, 0)", 5).due("runnerOf(1, 0)", 0).due("go(0, 0)", 0).due("runnerOf(0, 1)", 20);
    }

    /** Promise 18: "IndexOutOfBoundsException if there is no such sheet" */
    private static void copyOfNoSuch() {
        Run run = Run.loaded("Ftu0w00000000").noSuch("copy(-1, 0)", "copy(1, 0)", "copy(1, 10)", "copy(-1, -1)");
        run.noSuch("copy(" + MIN + ", 0)", "copy(" + MAX + ", 0)").due("copy(0, 0)", 0).due("copy(1, 0)", 0);
        Run.full().noSuch("copy(12, 0)", "copy(-1, 10)").due("copy(11, 0)", 4);
    }

    /** Promise 18: "IllegalArgumentException if fade is out of range", also where it cannot be copied */
    private static void copyOutOfRange() {
        Run run = Run.loaded("Ftu0w00000000").outOfRange("copy(0, -1)", "copy(0, 10)", "copy(0, " + MIN + ")");
        run.outOfRange("copy(0, " + MAX + ")").due("copy(0, 0)", 0).due("copy(0, 9)", 0).due("about(8)", 0);
        run.due("sheetOf(1, 2)", 0).due("sheetOf(2, 2)", 9);
        Run.full().outOfRange("copy(0, 10)", "copy(5, -1)").due("about(8)", 0);
        Run.loaded("Ftw00000009h11").outOfRange("copy(0, 10)").due("copy(0, 9)", 2);
    }

    /** Promise 18: "Returns 0 if it is copied, otherwise the reason why it cannot be." */
    private static void copyRefused() {
        Run run = Run.withSheets(11).due("copy(0, 0)", 0).due("about(4)", 12).due("copy(0, 0)", 4);
        run.due("about(4)", 12).due("about(8)", 1).does("take(0, 0)").due("copy(0, 0)", 3).due("about(8)", 2);
        Run same = Run.loaded("Ftw00000000");
        String before = same.looks();
        Check.same("a refused copy, taken back", before, same.due("copy(0, 0)", 3).due("undo()", 0).looks());
    }

    /** Promise 19: "IndexOutOfBoundsException if there is no such sheet" */
    private static void proofOfNoSuch() {
        Run run = Run.withSheets(3).noSuch("proof(-1, 0, 1, 0)", "proof(0, -1, 1, 0)", "proof(0, 1, -1, 0)");
        run.noSuch("proof(3, 0, 1, 0)", "proof(0, 3, 1, 0)", "proof(0, 1, 3, 0)", "proof(" + MAX + ", 0, 1, 0)");
        run.noSuch("proof(0, " + MIN + ", 1, 0)", "proof(0, 1, " + MAX + ", 0)", "proof(3, 3, 3, 10)");
        run.noSuch("proof(0, 0, 3, 0)", "proof(0, 3, 0, 10)", "proof(-1, 0, 0, -1)").due("proof(0, 1, 2, 0)", 0);
        run.due("proof(3, 1, 2, 0)", 0).noSuch("proof(5, 1, 2, 0)");
    }

    /** Promise 19: "IllegalArgumentException if two of them are the same, they are not all of one message..." */
    private static void proofOutOfRange() {
        Run run = Run.loaded("Ftu0w00000000c000c000w00000000");
        run.outOfRange("proof(0, 0, 1, 0)", "proof(0, 1, 0, 0)", "proof(1, 0, 0, 0)", "proof(2, 2, 2, 0)");
        run.outOfRange("proof(3, 0, 1, 0)", "proof(0, 3, 1, 0)", "proof(0, 1, 3, 0)", "proof(0, 0, 3, 0)");
        run.outOfRange("proof(0, 1, 2, -1)", "proof(0, 1, 2, 10)", "proof(0, 1, 2, " + MIN + ")");
        run.outOfRange("proof(0, 1, 2, " + MAX + ")").due("about(8)", 0).due("proof(0, 1, 2, 9)", 0);
        run.due("sheetOf(4, 2)", 9).due("proof(0, 1, 2, 0)", 0).due("sheetOf(5, 2)", 0);
        Run away = Run.loaded("Ftw00000000w00000000u0c000c000h60").does("town()", "road(0, 1, 5)", "go(0, 0)");
        away.outOfRange("proof(0, 2, 1, 0)", "proof(0, 2, 2, 0)", "proof(0, 2, 3, 10)").due("proof(0, 2, 3, 0)", 3);
    }

    /** Promise 19: "they are not all of one message": whichever of them is of a lower or of a higher one */
    private static void proofOfUnlikeMessages() {
        Run run = Run.loaded("Ftu0w00000000c000c000w00000000c030c030").due("sheetOf(5, 0)", 1);
        for (int set = 1; set <= 6; set++) {
            int a = (set & 1) == 0 ? 0 : 3;
            int b = (set & 2) == 0 ? 1 : 4;
            int c = (set & 4) == 0 ? 2 : 5;
            run.outOfRange("proof(" + a + ", " + b + ", " + c + ", 0)");
        }
        run.due("proof(0, 1, 2, 0)", 0).due("proof(3, 4, 5, 0)", 0).due("sheetOf(6, 0)", 0).due("sheetOf(7, 0)", 1);
    }

    /** Promise 19: "Returns 0 if it is made, otherwise the reason why it cannot be." */
    private static void proofRefused() {
        Run run = Run.withSheets(11).due("proof(0, 1, 2, 0)", 0).due("about(4)", 12).due("proof(0, 1, 2, 0)", 4);
        run.due("about(4)", 12).due("about(8)", 1).due("undo()", 1).due("about(8)", 0).due("undo()", 0);
        run.due("about(4)", 11);
        Run same = Run.loaded("Ftu0w00000000c000c000").does("town()", "road(0, 1, 1)", "go(0, 0)");
        String before = same.looks();
        Check.same("a refused proof, taken back", before, same.due("proof(0, 1, 2, 0)", 3).due("undo()", 3).looks());
    }

    /** Promise 20: "IllegalArgumentException if n is out of range" */
    private static void hoursOutOfRange() {
        Run run = Run.loaded("Ft").outOfRange("hours(0)", "hours(61)", "hours(-1)", "hours(" + MIN + ")");
        run.outOfRange("hours(" + MAX + ")").due("about(5)", 0);
        Run.full().outOfRange("hours(0)", "hours(61)");
    }

    /** Promise 20: "n: 1 to 60"; "Returns how often runners come to a town in them." */
    private static void hoursLeastAndMost() {
        Run run = new Run().due("hours(1)", 0).due("about(5)", 1).due("hours(60)", 0).due("about(5)", 61);
        run.due("hours(59)", 0).due("about(5)", 120);
        Run five = Run.loaded("Fttr0102" + "u0u1u0u1u0" + "g00g10g20g30g40").due("hours(1)", 0).due("hours(1)", 5);
        five.due("hours(60)", 0).does("go(0, 0)", "hours(1)", "go(1, 0)").due("hours(60)", 2);
        Run.loaded("Fttr0102" + "u0u1u0u1u0" + "g00g10g20g30g40").due("hours(60)", 5).due("about(9)", 31);
    }
}

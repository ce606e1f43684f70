/** The bounds that "Terms" names: towns, roads, runners, messages, sheets, inks, reasons, an hour. */
final class EdgeTermsTest {
    private static final String ELEVEN_COPIES = "c000".repeat(11);
    private static final String MIN = String.valueOf(Integer.MIN_VALUE);
    private static final String MAX = String.valueOf(Integer.MAX_VALUE);

    public static void main(String[] args) {
        sixTowns();
        tenRoads();
        roadsBetweenUnlikeTowns();
        oneToTwentyHours();
        fiveRunners();
        sixMessages();
        sixDigits();
        twelveSheets();
        inkOfNinetyNine();
        fadeOfNoneToNine();
        threeCarried();
        inATown();
        readWithEachBound();
        nineIsReadAsNone();
        errorsOfASheet();
        blurredBackToRight();
        reasonsOfCopies();
        noRunnerButTheCarrier();
        whatACopyIs();
        reasonsOfProofs();
        digitsOfProofs();
        inkNotBelowNone();
        runnersComeToTowns();
        Check.end();
    }

    /** "There are at most 6 towns, numbered from 0." */
    private static void sixTowns() {
        Run run = new Run();
        for (int t = 0; t < 6; t++) {
            run.noSuch("route(" + t + ", " + t + ", 0)").due("town()", t).due("route(" + t + ", " + t + ", 0)", 0);
        }
        run.due("about(0)", 6).notNow("town()").due("about(0)", 6);
        run.noSuch("route(6, 6, 0)", "route(-1, -1, 0)");
    }

    /** "There are at most 10 roads, numbered from 0" */
    private static void tenRoads() {
        Run run = Run.loaded("Ftt");
        for (int w = 0; w < 10; w++) {
            run.noSuch("roadOf(" + w + ", 2)").due("road(0, 1, " + (20 - w) + ")", w);
            run.due("roadOf(" + w + ", 2)", 20 - w);
        }
        run.due("about(1)", 10).notNow("road(0, 1, 1)").due("about(1)", 10).noSuch("roadOf(10, 2)");
        run.due("route(0, 1, 0)", 11);
    }

    /** "each between two unlike towns" */
    private static void roadsBetweenUnlikeTowns() {
        Run run = Run.loaded("Ftttttt").outOfRange("road(0, 0, 1)", "road(5, 5, 20)", "road(3, 3, 0)");
        run.due("road(5, 0, 1)", 0).due("road(0, 5, 1)", 1).due("road(5, 0, 1)", 2);
    }

    /** "which takes 1 to 20 hours" */
    private static void oneToTwentyHours() {
        Run run = Run.loaded("Fttu0");
        run.outOfRange("road(0, 1, 0)", "road(0, 1, 21)", "road(0, 1, -1)", "road(0, 1, " + MIN + ")",
                "road(0, 1, " + MAX + ")");
        run.due("road(0, 1, 1)", 0).due("road(0, 1, 20)", 1).due("roadOf(0, 2)", 1).due("roadOf(1, 2)", 20);
        run.due("go(0, 0)", 1).due("runnerOf(0, 1)", 1).due("hours(1)", 1).due("runnerOf(0, 1)", 0);
        run.due("go(0, 1)", 0).due("runnerOf(0, 1)", 20).due("hours(19)", 0).due("runnerOf(0, 1)", 1);
        run.due("about(9)", 0).due("hours(1)", 1).due("runnerOf(0, 1)", 0).due("about(9)", 1);
    }

    /** "There are at most 5 runners, numbered from 0." */
    private static void fiveRunners() {
        Run run = Run.loaded("Ftt");
        for (int r = 0; r < 5; r++) {
            run.noSuch("runnerOf(" + r + ", 0)").due("runner(1)", r).due("runnerOf(" + r + ", 0)", 1);
        }
        run.due("about(2)", 5).notNow("runner(1)").due("about(2)", 5).noSuch("runnerOf(5, 0)");
    }

    /** "There are at most 6 messages, numbered from 0" */
    private static void sixMessages() {
        Run run = Run.loaded("Ft");
        for (int m = 0; m < 6; m++) {
            run.noSuch("message(" + m + ")", "best(" + m + ")").due("write(0, " + m + ", 0)", m);
            run.due("message(" + m + ")", m).due("best(" + m + ")", m);
        }
        run.due("about(3)", 6).notNow("write(0, 0, 0)").due("about(3)", 6).due("about(4)", 6);
        run.noSuch("message(6)", "best(6)");
    }

    /** "each of 6 digits", zeros at the front too */
    private static void sixDigits() {
        Run run = Run.loaded("Ftu0").outOfRange("write(0, -1, 0)", "write(0, 1000000, 0)");
        run.due("write(0, 0, 7)", 0).due("write(0, 999999, 7)", 1);
        run.due("message(0)", 0).due("message(1)", 999999).due("sheetOf(0, 6)", 0).due("sheetOf(1, 6)", 999999);
        // the ink 36: the place 0
        run.does("hours(9)").due("sheetOf(0, 7)", 100000).due("sheetOf(1, 7)", 99999);
        run.does("copy(1, 0)").due("sheetOf(2, 6)", 99999).due("sheetOf(2, 5)", 1);
        // the ink 29: the place 5
        run.does("hours(1)").due("sheetOf(0, 7)", 1).due("sheetOf(1, 7)", 999990);
    }

    /** "and at most 12 sheets, numbered from 0" */
    private static void twelveSheets() {
        Run written = Run.withSheets(11).noSuch("sheetOf(11, 0)", "sheetOf(12, 0)", "sheetOf(-1, 0)");
        written.due("write(0, 5, 0)", 1).due("sheetOf(11, 0)", 1).due("about(4)", 12);
        written.notNow("write(0, 5, 0)").due("about(3)", 2).noSuch("sheetOf(12, 0)");
        Run copied = Run.withSheets(11).due("copy(10, 3)", 0).due("sheetOf(11, 2)", 3).due("copy(10, 3)", 4);
        copied.due("copy(11, 3)", 4).due("about(4)", 12).noSuch("sheetOf(12, 0)", "copy(12, 0)");
        Run proved = Run.withSheets(11).due("proof(8, 9, 10, 3)", 0).due("sheetOf(11, 2)", 3);
        proved.due("proof(9, 10, 11, 3)", 4).due("about(4)", 12).noSuch("sheetOf(12, 0)", "proof(9, 10, 12, 3)");
        proved.due("take(0, 11)", 1).due("runnerOf(0, 2)", 2048).noSuch("take(0, 12)");
    }

    /** "ink of 0 to 99": 99 on each new sheet, and 0 at the end */
    private static void inkOfNinetyNine() {
        Run run = Run.loaded("Ftu0w00000009").due("sheetOf(0, 1)", 99)
                .does("copy(0, 9)", "copy(1, 9)", "proof(2, 0, 1, 9)");
        run.due("sheetOf(1, 1)", 99).due("sheetOf(3, 1)", 99).does("hours(10)");
        run.due("sheetOf(0, 1)", 9).due("sheetOf(3, 1)", 9).does("copy(3, 9)").due("sheetOf(4, 1)", 99);
        run.does("hours(1)").due("sheetOf(0, 1)", 0).due("sheetOf(3, 1)", 0).due("sheetOf(4, 1)", 90);
        run.does("hours(60)").due("sheetOf(0, 1)", 0).due("sheetOf(4, 1)", 0);
    }

    /** "and a fade of 0 to 9" */
    private static void fadeOfNoneToNine() {
        Run run = Run.loaded("Ftu0").due("write(0, 0, 0)", 0).due("write(0, 0, 9)", 1);
        run.outOfRange("write(0, 0, -1)", "write(0, 0, 10)", "copy(0, -1)", "copy(0, 10)", "copy(0, " + MIN + ")");
        run.due("copy(0, 0)", 0).due("copy(0, 9)", 0);
        run.outOfRange("proof(0, 2, 3, -1)", "proof(0, 2, 3, 10)", "proof(0, 2, 3, " + MAX + ")");
        run.due("proof(0, 2, 3, 0)", 0).due("proof(0, 2, 3, 9)", 0);
        for (int s = 0; s < 6; s++) {
            run.due("sheetOf(" + s + ", 2)", s == 1 || s == 3 || s == 5 ? 9 : 0);
        }
        run.does("hours(1)");
        for (int s = 0; s < 6; s++) {
            run.due("sheetOf(" + s + ", 1)", s == 1 || s == 3 || s == 5 ? 90 : 99);
        }
    }

    /** "a runner carries at most 3" */
    private static void threeCarried() {
        Run run = Run.withSheets(5).does("runner(0)");
        run.due("take(0, 4)", 1).due("take(0, 2)", 2).due("take(0, 0)", 3).notNow("take(0, 1)", "take(0, 3)");
        run.due("runnerOf(0, 2)", 21).due("lay(2)", 0).due("take(0, 1)", 3).notNow("take(0, 2)");
        run.due("take(1, 0)", 1).due("take(0, 3)", 3).notNow("take(0, 0)").due("runnerOf(0, 2)", 26);
        run.due("take(1, 2)", 2).due("take(1, 4)", 3).notNow("take(1, 1)").due("runnerOf(1, 2)", 21);
    }

    /** "A sheet is in a town if it lies there, or its runner is there." */
    private static void inATown() {
        Run run = Run.loaded("Fttr0102u0w00000000w00000000k000g00");
        run.due("sheetOf(0, 4)", -1).due("sheetOf(1, 4)", 0).due("sheetOf(1, 3)", -1).does("hours(1)");
        run.due("sheetOf(0, 4)", -1).does("hours(1)").due("sheetOf(0, 4)", 1).due("sheetOf(0, 3)", 0);
        run.does("lay(0)", "go(0, 0)").due("sheetOf(0, 4)", 1).due("sheetOf(0, 3)", -1).due("sheetOf(1, 4)", 0);
    }

    private static void read(int ink, int want, int errors) {
        Run run = Run.loaded("Ftu0w09091901");
        int gone = 99 - ink;
        run.due("errorsIn(0, " + gone + ")", errors);
        for (int rest = gone; rest > 0; rest -= 60) {
            run.does("hours(" + Math.min(60, rest) + ")");
        }
        run.due("sheetOf(0, 1)", ink).due("sheetOf(0, 7)", want).due("sheetOf(0, 5)", errors);
        run.due("sheetOf(0, 6)", 909190).due("about(6)", errors).due("about(7)", want == -1 ? 1 : 0);
        run.due("errorsIn(0, 0)", errors).due("ifBrought(0, 0)", errors).due("why(0)", want == -1 ? 2 : 0);
        if (want == -1) {
            run.due("copy(0, 0)", 2);
        } else {
            run.due("copy(0, 0)", 0).due("sheetOf(1, 6)", want).due("sheetOf(1, 7)", want);
        }
    }

    /** "With k as 40 or more", "from 20 to 39", "from 1 to 19", "With k as 0", "modulo 6" */
    private static void readWithEachBound() {
        read(99, 909190, 0);
        read(98, 909190, 0);
        read(60, 909190, 0);
        read(41, 909190, 0);
        read(40, 909190, 0);
        read(39, 909290, 1);
        read(38, 900190, 1);
        read(37, 919190, 1);
        read(36, 9190, 1);
        read(35, 909191, 1);
        read(34, 909100, 1);
        read(30, 9190, 1);
        read(29, 909191, 1);
        read(24, 9190, 1);
        read(23, 909191, 1);
        read(21, 909290, 1);
        read(20, 900190, 1);
        read(19, 919290, 2);
        read(18, 190, 2);
        read(17, 919191, 2);
        read(16, 9100, 2);
        read(15, 909291, 2);
        read(14, 900100, 2);
        read(6, 190, 2);
        read(5, 919191, 2);
        read(4, 9100, 2);
        read(3, 909291, 2);
        read(2, 900100, 2);
        read(1, 919290, 2);
        read(0, -1, 6);
    }

    /** "(9 as 0)": at each place, and no digit beside it becomes another */
    private static void nineIsReadAsNone() {
        int[] want = {99999, 909999, 990999, 999099, 999909, 999990};
        Run run = Run.loaded("Ftw09999991h60");
        for (int ink = 39; ink >= 34; ink--) {
            run.due("sheetOf(0, 1)", ink).due("sheetOf(0, 7)", want[ink % 6]).due("sheetOf(0, 5)", 1).does("hours(1)");
        }
        Run two = Run.loaded("Ftw09999991h60h20");
        int[] wantOfTwo = {90999, 909099, 990909, 999090, 99909, 909990};
        for (int ink = 19; ink >= 1; ink--) {
            two.due("sheetOf(0, 7)", wantOfTwo[ink % 6]).due("sheetOf(0, 5)", 2).does("hours(1)");
        }
        two.due("sheetOf(0, 7)", -1);
        Run eight = Run.loaded("Ftw08888889h07").due("sheetOf(0, 7)", 988888);
        eight.does("hours(2)").due("sheetOf(0, 7)", 989888);
    }

    /** "The errors of a sheet are the places at which what is read is not the digit of its message; 6 if..." */
    private static void errorsOfASheet() {
        // blurred once or more at each place, and read well
        Run run = Run.loaded("Ftu0w00000007h13c009h09c018h10c028h08c030");
        run.due("sheetOf(4, 6)", 112111).due("sheetOf(4, 7)", 112111).due("sheetOf(4, 5)", 6).due("sheetOf(4, 1)", 99);
        run.due("about(7)", 3).due("sheetOf(3, 1)", 35).due("sheetOf(3, 5)", 6).due("sheetOf(3, 6)", 112110);
        run.due("sheetOf(0, 5)", 6).due("sheetOf(1, 5)", 6).due("sheetOf(2, 5)", 6).due("about(6)", 30);
        Run none = Run.loaded("Ftw00000009").due("sheetOf(0, 5)", 0).does("hours(10)").due("sheetOf(0, 5)", 2);
        none.does("hours(1)").due("sheetOf(0, 5)", 6);
    }

    /** The errors are those against the message, not against what was written on the sheet. */
    private static void blurredBackToRight() {
        StringBuilder text = new StringBuilder("Ftu0w00000009");
        for (int s = 0; s < 10; s++) {
            text.append("h07c").append("0").append(s).append("9");
        }
        // ten times blurred at the place 0
        Run run = Run.loaded(text.toString()).due("about(4)", 11);
        run.due("sheetOf(8, 6)", 800000).due("sheetOf(9, 6)", 900000).due("sheetOf(10, 6)", 0).due("sheetOf(10, 5)", 0);
        run.due("sheetOf(9, 1)", 36).due("sheetOf(9, 7)", 0).due("sheetOf(9, 5)", 0);
    }

    private static void refusedCopy(int reason, String text) {
        Run.loaded(text).due("why(0)", reason).due("about(8)", 0).due("copy(0, 9)", reason).due("about(8)", 1);
    }

    /** "the first of which is the reason why it cannot": each reason alone, and with each later one */
    private static void reasonsOfCopies() {
        refusedCopy(1, "Fttr0102u0u1w00000000k000g00");
        refusedCopy(1, "Fttr0120u0u1w00000009k000g00h11");
        refusedCopy(1, "Fttr0120u0w00000000k000g00");
        refusedCopy(1, "Fttr0120u0u1w00000000" + ELEVEN_COPIES + "k000g00");
        refusedCopy(1, "Fttr0120u0w00000009" + ELEVEN_COPIES + "k000g00h11");
        refusedCopy(2, "Ftu0w00000009h11");
        refusedCopy(2, "Ftu0u0w00000009k000h11");
        refusedCopy(2, "Ftw00000009h11");
        refusedCopy(2, "Ftu0w00000009k000h11");
        refusedCopy(2, "Ftu0w00000009" + ELEVEN_COPIES + "h11");
        refusedCopy(2, "Ftu0w00000009" + ELEVEN_COPIES + "k000h11");
        refusedCopy(3, "Ftw00000009");
        refusedCopy(3, "Ftu0w00000009k000h10");
        refusedCopy(3, "Ftu0w00000000" + ELEVEN_COPIES + "k000");
        refusedCopy(4, "Ftu0w00000000" + ELEVEN_COPIES);
        refusedCopy(4, "Ftu0u0w00000001" + ELEVEN_COPIES + "k000h60h38");
        Run.withSheets(11).due("why(0)", 0).due("copy(0, 9)", 0).due("about(8)", 0).due("about(4)", 12);
        Run.loaded("Ftu0w00000009h10").due("why(0)", 0).due("copy(0, 9)", 0).due("about(8)", 0);
    }

    /** "3: no runner is in that town but the one who carries it" */
    private static void noRunnerButTheCarrier() {
        Run.loaded("Ftu0w00000000").due("why(0)", 0).does("take(0, 0)").due("why(0)", 3).does("runner(0)")
                .due("why(0)", 0).does("take(1, 0)").due("why(0)", 0).does("lay(0)").due("why(0)", 0);
        Run away = Run.loaded("Fttr0102u0w00000000w10000000").due("why(0)", 0).due("why(1)", 3).does("go(0, 0)");
        away.due("why(0)", 3).due("why(1)", 3).does("hours(1)").due("why(0)", 3).due("why(1)", 3).does("hours(1)");
        away.due("why(0)", 3).due("why(1)", 0);
        Run last = Run.loaded("Fttu1u1u1u1u0w00000000k400").due("why(0)", 3).does("lay(0)").due("why(0)", 0);
        last.does("write(1, 5, 5)", "take(0, 1)").due("why(1)", 0).does("road(0, 1, 1)");
        last.does("go(1, 0)", "go(2, 0)", "go(3, 0)").due("why(1)", 3).does("hours(1)").due("why(1)", 3);
        last.does("go(4, 0)", "hours(1)").due("why(1)", 0).due("why(0)", 0);
    }

    /** "The copy is of the same message, has what is read of it as digits, the ink 99, and lies in that town." */
    private static void whatACopyIs() {
        Run run = Run.loaded("Fttr0101u1u1w15555559w19999990k001g00h10").due("copy(0, 4)", 0);
        // the ink 9: the places 3 and 5
        run.due("sheetOf(2, 0)", 0).due("sheetOf(2, 1)", 99).due("sheetOf(2, 2)", 4).due("sheetOf(2, 3)", -1);
        run.due("sheetOf(2, 4)", 1).due("sheetOf(2, 5)", 2).due("sheetOf(2, 6)", 555656).due("sheetOf(2, 7)", 555656);
        run.due("copy(1, 0)", 3).does("runner(0)").due("copy(1, 0)", 0).due("sheetOf(3, 0)", 1);
        run.due("sheetOf(3, 4)", 0).due("sheetOf(3, 3)", -1).due("sheetOf(1, 3)", 0).due("sheetOf(0, 6)", 555555);
    }

    private static void refusedProof(int reason, String text, String... three) {
        for (String sheets : three) {
            Run run = Run.loaded(text).due("about(8)", 0);
            run.due("proof(" + sheets + ", 9)", reason).due("about(8)", 1);
        }
    }

    /** "if none of these is so, the first of which is the reason": each alone, and with each later one */
    private static void reasonsOfProofs() {
        String[] each = {"0, 1, 2", "1, 0, 2", "1, 2, 0"};
        String base = "Fttr0120u0u0w00000000c000c000";
        String faded = "Fttr0120u0u0w00000009c000c000";
        refusedProof(1, base + "k000g00", each);
        refusedProof(1, base + "k000k001g00", each);
        refusedProof(1, base + "k000k001k002g00", each);
        refusedProof(1, base + "k000k101k102g00g10h19", each);
        refusedProof(1, base + "k000g00h20", each);
        refusedProof(1, base + "k000k101g00g10h20", each);
        refusedProof(1, faded + "k000g00h11", each);
        refusedProof(1, faded + "k000g00h20", each);
        refusedProof(1, base + "k000g00g10h20", each);
        refusedProof(1, base + "c000".repeat(9) + "k000g00", each);
        refusedProof(1, faded + "c000".repeat(9) + "k000g00h20", each);
        refusedProof(2, faded + "h11", each);
        refusedProof(2, "Fttr0120u0w00000009c009c000h11", "0, 1, 2", "0, 2, 1", "2, 0, 1");
        refusedProof(2, faded + "h11g00g10", each);
        refusedProof(2, faded + "c000".repeat(9) + "h11", each);
        refusedProof(2, faded + "c000".repeat(9) + "h11g00g10", each);
        refusedProof(3, base + "g00g10", each);
        refusedProof(3, faded + "g00g10h10", each);
        refusedProof(3, base + "c000".repeat(9) + "g00g10", each);
        refusedProof(4, base + "c000".repeat(9), each);
        refusedProof(4, base + "c000".repeat(9) + "k000k001k002", each);
        for (String sheets : each) {
            Run.loaded(base + "c000".repeat(8)).due("proof(" + sheets + ", 9)", 0).due("about(4)", 12);
            Run.loaded(faded + "h10").due("proof(" + sheets + ", 9)", 0).due("about(8)", 0);
        }
        // a runner who carries them is a runner in that town
        Run brought = Run.loaded("Fttr0120u0w00000000c000c000k000k001k002g00h20");
        brought.due("proof(2, 1, 0, 7)", 0).due("sheetOf(3, 4)", 1).due("sheetOf(3, 3)", -1).due("sheetOf(3, 2)", 7);
    }

    /** "each of its digits is the one that two or three of them have as read there, or, if all three are unlike..." */
    private static void digitsOfProofs() {
        // read of 0, 2 and 4: 900000, 000000 and 100000; what is read counts, not what was written
        Run run = Run.loaded("Ftu0w09000000c009h07c010c019h07c030");
        run.due("sheetOf(0, 7)", 900000).due("sheetOf(2, 7)", 0).due("sheetOf(4, 7)", 100000);
        proof(run, "0, 2, 4", 5, 900000);
        proof(run, "2, 0, 4", 6, 0);
        proof(run, "4, 2, 0", 7, 100000);
        run.due("sheetOf(7, 5)", 1).due("sheetOf(7, 0)", 0).due("sheetOf(7, 1)", 99);
        proof(run, "0, 5, 4", 8, 900000);
        proof(run, "0, 4, 5", 9, 900000);
        proof(run, "4, 0, 5", 10, 900000);
        proof(run, "0, 5, 8", 11, 900000);
        // the inks 27 and 18: the place 3, and the places 0 and 2
        Run read = Run.loaded("Ftu0w05555558c009c000h09").due("sheetOf(0, 7)", 555655).due("sheetOf(1, 7)", 656555);
        proof(read, "0, 1, 2", 3, 555555);
        read.due("sheetOf(3, 5)", 0);
        // all three are read as another digit at the place 3
        Run alike = Run.loaded("Ftu0w05555558c008c008h09");
        proof(alike, "0, 1, 2", 3, 555655);
        alike.due("sheetOf(3, 5)", 1).due("sheetOf(3, 4)", 0);
    }

    private static void proof(Run run, String three, int s, int digits) {
        run.due("proof(" + three + ", 0)", 0).due("sheetOf(" + s + ", 6)", digits);
    }

    /** "The time becomes 1 more. The ink of each sheet becomes less by its fade, but not below 0." */
    private static void inkNotBelowNone() {
        int[] lastHours = {99, 50, 33, 25, 20, 17, 15, 13, 11};
        for (int fade = 1; fade <= 9; fade++) {
            int last = lastHours[fade - 1];
            Run run = Run.loaded("Ftw0000000" + fade);
            for (int rest = last - 1; rest > 0; rest -= 60) {
                run.does("hours(" + Math.min(60, rest) + ")");
            }
            run.due("sheetOf(0, 1)", 99 - fade * (last - 1)).due("about(7)", 0).due("about(5)", last - 1);
            run.due("hours(1)", 0).due("sheetOf(0, 1)", 0).due("about(7)", 1).due("about(5)", last);
            run.does("hours(1)").due("sheetOf(0, 1)", 0).due("sheetOf(0, 5)", 6).due("sheetOf(0, 7)", -1);
            Run atOnce = Run.loaded("Ftw0000000" + fade).does("hours(60)", "hours(60)").due("sheetOf(0, 1)", 0);
            atOnce.due("about(5)", 120);
        }
        Run.loaded("Ftw00000000").does("hours(60)", "hours(60)").due("sheetOf(0, 1)", 99).due("about(5)", 120);
    }

    /** "Each runner on a road has 1 hour less left; with none left the runner is in the town." */
    private static void runnersComeToTowns() {
        Run run = Run.loaded("Fttr0103u0u0u1").does("go(0, 0)", "hours(1)", "go(2, 0)");
        run.due("about(9)", 2).due("runnerOf(0, 1)", 2).due("runnerOf(2, 1)", 3).due("hours(1)", 0);
        run.due("runnerOf(0, 1)", 1).due("about(9)", 2).due("runnerOf(0, 3)", 2).due("hours(1)", 1);
        run.due("about(9)", 3).due("runnerOf(0, 1)", 0).due("runnerOf(0, 0)", 1).due("runnerOf(0, 3)", 3);
        run.due("hours(1)", 1).due("about(9)", 7).due("hours(1)", 0).due("runnerOf(0, 3)", 3).due("runnerOf(1, 3)", 0);
        run.due("runnerOf(2, 3)", 3).due("runnerOf(2, 0)", 0).due("runnerOf(0, 1)", 0);
    }
}

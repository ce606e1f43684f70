/** The bounds of promises 2 to 5 and of the text: append, clearText, errorPosition, load. */
final class EdgeTextTest {
    private static final String COMMANDS = "truwklgch";
    private static final String TOWN = "012345";
    private static final String RUNNER = "01234";
    private static final String DIGIT = "0123456789";
    private static final String LONGEST = "F" + "t".repeat(119);

    public static void main(String[] args) {
        charactersFromNoneTo255();
        oneHundredAndTwentyCharacters();
        rangeAheadOfFull();
        clearTextOfEmptyAndFull();
        emptyText();
        everySignAtEveryPlace();
        tooSoonAtEveryPlace();
        errorsInAFullText();
        firstErrorOfSeveral();
        loadOfNothingMore();
        loadMakesAllAsNew();
        loadForgetsStatesAndSlots();
        loadKeepsTheText();
        loadThatThrows();
        loadIsNoAction();
        leavesOutEachExceptionOfTownAndRoad();
        leavesOutEachExceptionOfRunnerAndWrite();
        leavesOutEachExceptionOfTakeAndLay();
        leavesOutEachExceptionOfGo();
        leavesOutCopiesThatCannotBeMade();
        leftOutCommandsChangeNothing();
        leastAndMostNumbers();
        fromLeftToRight();
        Check.end();
    }

    /** "c: character code, 0 to 255" */
    private static void charactersFromNoneTo255() {
        Run run = new Run().outOfRange("append(-1)", "append(256)", "append(-256)", "append(326)",
                "append(" + Integer.MIN_VALUE + ")", "append(" + Integer.MAX_VALUE + ")");
        run.due("append(0)", 1).due("append(1)", 2).due("append(254)", 3).due("append(255)", 4);
        run.outOfRange("append(256)", "append(-1)").due("clearText()", 4);
    }

    /** "IllegalStateException if the text already has 120 characters" */
    private static void oneHundredAndTwentyCharacters() {
        Run run = new Run();
        for (int i = 1; i <= 119; i++) {
            run.due("append(70)", i);
        }
        run.due("append(70)", 120).notNow("append(70)", "append(0)", "append(255)").due("clearText()", 120);
        run.due("append(70)", 1).due("clearText()", 1);
    }

    /** "If several exceptions apply to a call, the one that its description names first is thrown." */
    private static void rangeAheadOfFull() {
        new Run().text(LONGEST).outOfRange("append(-1)", "append(256)").notNow("append(116)")
                .due("errorPosition()", -1);
    }

    /** "Returns the previous length of the text." */
    private static void clearTextOfEmptyAndFull() {
        Run run = new Run().due("clearText()", 0).due("clearText()", 0).text("F").due("clearText()", 1);
        run.due("clearText()", 0).text(LONGEST).due("clearText()", 120).due("clearText()", 0).due("errorPosition()", 0);
        run.text("Ft").due("errorPosition()", -1).due("load()", 0).due("about(0)", 1);
    }

    /** "if the text ends too soon, it is the length of the text": here 0 */
    private static void emptyText() {
        new Run().due("errorPosition()", 0).notNow("load()");
        Run.loaded("Ft").does("clearText()").due("errorPosition()", 0).notNow("load()").due("about(0)", 1);
    }

    /** Each of the 256 signs behind a beginning: only the allowed ones are, and the text is a country or too short. */
    private static void signs(String before, String allowed, boolean isWhole) {
        for (int c = 0; c < 256; c++) {
            int want = before.length();
            if (allowed.indexOf(c) >= 0) {
                want = isWhole ? FadingSheets.NONE : before.length() + 1;
            }
            FadingSheets x = new FadingSheets();
            Texts.put(x, before);
            x.append(c);
            Check.due("errorPosition() of " + before + " and the sign " + c, want, x::errorPosition);
            if (want == FadingSheets.NONE) {
                Check.isTrue("load() of " + before + (char) c, x.load() >= 0);
            } else {
                Check.notNow("load() of " + before + " and the sign " + c, x::load);
            }
            if (want == before.length()) {
                x.append('t');
                Check.due("errorPosition() of " + before + ", the sign " + c + " and t", want, x::errorPosition);
            }
        }
    }

    /** "a digit is not allowed if no number that is allowed begins with it and those before it" */
    private static void everySignAtEveryPlace() {
        signs("", "F", true);
        signs("Fr", TOWN, false);
        signs("Fr5", TOWN, false);
        signs("Fr05", "012", false);
        signs("Fr010", "123456789", true);
        signs("Fr011", DIGIT, true);
        signs("Fr012", "0", true);
        signs("Fu", TOWN, true);
        signs("Fw", TOWN, false);
        for (String digits = "Fw0"; digits.length() < 9; digits += "9") {
            signs(digits, DIGIT, false);
        }
        signs("Fw0999999", DIGIT, true);
        signs("Fw5000000", DIGIT, true);
        signs("Fk", RUNNER, false);
        signs("Fk4", "01", false);
        signs("Fk40", DIGIT, true);
        signs("Fk41", "01", true);
        signs("Fl", "01", false);
        signs("Fl0", DIGIT, true);
        signs("Fl1", "01", true);
        signs("Fg", RUNNER, false);
        signs("Fg4", DIGIT, true);
        signs("Fc", "01", false);
        signs("Fc0", DIGIT, false);
        signs("Fc1", "01", false);
        signs("Fc00", DIGIT, true);
        signs("Fc11", DIGIT, true);
        signs("Fh", "0123456", false);
        signs("Fh0", "123456789", true);
        signs("Fh1", DIGIT, true);
        signs("Fh5", DIGIT, true);
        signs("Fh6", "0", true);
        commandsAtTheirPlace();
    }

    /** "F, and then any number of commands": only t is a command without digits */
    private static void commandsAtTheirPlace() {
        String[] wholes = {"F", "Ft", "Fr0120", "Fu0", "Fw01234567", "Fk011", "Fl11", "Fg49", "Fc119", "Fh60"};
        for (String whole : wholes) {
            for (int c = 0; c < 256; c++) {
                int want = c == 't' ? FadingSheets.NONE : whole.length() + (COMMANDS.indexOf(c) >= 0 ? 1 : 0);
                FadingSheets x = new FadingSheets();
                Texts.put(x, whole);
                Check.due("errorPosition() of " + whole, FadingSheets.NONE, x::errorPosition);
                x.append(c);
                Check.due("errorPosition() of " + whole + " and the sign " + c, want, x::errorPosition);
            }
        }
    }

    /** "if the text ends too soon, it is the length of the text" */
    private static void tooSoonAtEveryPlace() {
        String[] commands = {"r0120", "u0", "w01234567", "k011", "l11", "g09", "c119", "h60"};
        for (String command : commands) {
            for (int length = 1; length < command.length(); length++) {
                String text = "Ft" + command.substring(0, length);
                new Run().text(text).due("errorPosition()", text.length()).notNow("load()");
            }
            new Run().text("Ft" + command).due("errorPosition()", -1).does("load()");
        }
    }

    /** "a text buffer of at most 120 characters": the last place, and the place behind it */
    private static void errorsInAFullText() {
        new Run().text(LONGEST).due("errorPosition()", -1).due("load()", 113).due("about(0)", 6);
        String short1 = LONGEST.substring(0, 119);
        new Run().text(short1 + "u").due("errorPosition()", 120).notNow("load()");
        new Run().text(short1 + "x").due("errorPosition()", 119).notNow("load()");
        new Run().text(short1 + "F").due("errorPosition()", 119).notNow("load()");
        new Run().text(short1.substring(0, 118) + "u0").due("errorPosition()", -1).due("load()", 111);
        new Run().text(short1.substring(0, 118) + "u6").due("errorPosition()", 119).notNow("load()");
        new Run().text(short1.substring(0, 111) + "w01234567").due("errorPosition()", -1).does("load()");
        new Run().text(short1.substring(0, 112) + "w0123456").due("errorPosition()", 120).notNow("load()");
    }

    /** "the index of the first character that these rules do not allow at its place"; "There are no blanks." */
    private static void firstErrorOfSeveral() {
        new Run().text(" F").due("errorPosition()", 0).notNow("load()");
        new Run().text("F t").due("errorPosition()", 1).notNow("load()");
        new Run().text("Ft t").due("errorPosition()", 2).notNow("load()");
        new Run().text("Ftr0 120").due("errorPosition()", 4).notNow("load()");
        new Run().text("Ft ").due("errorPosition()", 2).notNow("load()");
        new Run().text("fx").due("errorPosition()", 0);
        new Run().text("FF").due("errorPosition()", 1);
        new Run().text("Fu6u7x").due("errorPosition()", 2);
        new Run().text("Fr0100h61").due("errorPosition()", 5);
        new Run().text("Fr0121r").due("errorPosition()", 5);
        new Run().text("Fr6").due("errorPosition()", 2);
        new Run().text("Fl12").due("errorPosition()", 3);
        new Run().text("Fl20").due("errorPosition()", 2);
        new Run().text("Fh00").due("errorPosition()", 3);
        new Run().text("Fh61").due("errorPosition()", 3);
        new Run().text("Fh70").due("errorPosition()", 2);
    }

    /** "the letter F, and then any number of commands": none of them too */
    private static void loadOfNothingMore() {
        Run run = new Run().text("F").due("errorPosition()", -1).due("load()", 0);
        for (int what = 0; what <= 9; what++) {
            run.due("about(" + what + ")", 0);
        }
        Run over = Run.full().text("F").due("load()", 0);
        Check.same("a full country loaded over", new Run().looks(), over.looks());
    }

    /** "Makes everything as in a new object, and then does the commands of the text." */
    private static void loadMakesAllAsNew() {
        String text = "Fttr0104u0w02718289k000g00h05l00c000";
        String loaded = Run.loaded(text).looks();
        Run over = Run.full().does("hours(9)", "copy(0, 0)").text(text).due("load()", 0);
        Check.same("loaded over a full country", loaded, over.looks());
        Run again = Run.loaded(text).does("hours(60)", "town()", "copy(0, 0)").due("load()", 0);
        Check.same("loaded again", loaded, again.looks());
        String[] onRoads = {"town()", "town()", "road(0, 1, 20)", "runner(0)", "write(0, 5, 5)", "take(0, 0)",
            "go(0, 0)"};
        Run away = Run.of(onRoads).does("hours(3)").text("Fttr1002u1w16543211").due("load()", 0);
        Check.same("loaded with all on roads", Run.loaded("Fttr1002u1w16543211").looks(), away.looks());
        away.due("runnerOf(0, 1)", 0).due("runnerOf(0, 3)", 0).due("sheetOf(0, 3)", -1).due("about(9)", 1);
        again.due("about(5)", 5).due("about(8)", 0).due("sheetOf(1, 1)", 99).due("runnerOf(0, 3)", 4);
    }

    /** "Behind it no state is remembered, and both save slots are empty." */
    private static void loadForgetsStatesAndSlots() {
        Run run = Run.of("town()", "save(0)", "town()", "save(1)").text("Ftttu0h01").does("load()");
        run.notNow("undo()", "restore(0)", "restore(1)").due("about(0)", 3).does("save(1)");
        run.notNow("restore(0)").due("restore(1)", 1).does("load()").notNow("restore(1)", "undo()");
    }

    /** "Keeps the text, also if it throws the exception." */
    private static void loadKeepsTheText() {
        new Run().text("Ftu0").due("load()", 0).due("load()", 0).due("clearText()", 4);
        new Run().text("Ftu0").does("load()").due("append(116)", 5).due("load()", 0).due("about(0)", 2);
        new Run().text("Ftu").notNow("load()").due("append(48)", 4).due("load()", 0).due("about(2)", 1);
        new Run().text("Ftu").notNow("load()").due("clearText()", 3);
    }

    /** "IllegalStateException if the text is not a country"; "A call that throws an exception changes nothing." */
    private static void loadThatThrows() {
        Run run = Run.full().does("hours(7)", "save(1)", "hours(5)", "copy(5, 0)").text("Fttu0u6").notNow("load()");
        run.due("about(0)", 6).due("about(5)", 12).due("about(8)", 1).due("undo()", 2).due("restore(1)", 7);
    }

    /** "load and restore are not actions." */
    private static void loadIsNoAction() {
        Run run = Run.of("town()").text("Ftt").does("load()").notNow("undo()").due("about(0)", 2);
        run.due("town()", 2).does("load()").notNow("undo()").due("about(0)", 2).does("town()").due("undo()", 0);
    }

    private static Run leftOut(int want, String text) {
        return new Run().text(text).due("errorPosition()", -1).due("load()", want);
    }

    /** "Commands that would throw an exception ... are left out" */
    private static void leavesOutEachExceptionOfTownAndRoad() {
        leftOut(0, "Ftttttt").due("about(0)", 6);
        leftOut(1, "Fttttttt").due("about(0)", 6);
        leftOut(3, "Fttttttttt").due("about(0)", 6);
        leftOut(1, "Fttr0220").due("about(1)", 0);
        leftOut(1, "Fttr2020").due("about(1)", 0);
        leftOut(1, "Fttr0001").due("about(1)", 0);
        leftOut(1, "Fr0101").due("about(1)", 0);
        leftOut(0, "Ftt" + "r0120".repeat(10)).due("about(1)", 10);
        leftOut(1, "Ftt" + "r0120".repeat(11)).due("about(1)", 10);
    }

    /** "Commands that would throw an exception ... are left out" */
    private static void leavesOutEachExceptionOfRunnerAndWrite() {
        leftOut(1, "Ftu1").due("about(2)", 0);
        leftOut(0, "Ft" + "u0".repeat(5)).due("about(2)", 5);
        leftOut(1, "Ft" + "u0".repeat(6)).due("about(2)", 5);
        leftOut(1, "Ftw10000000").due("about(3)", 0);
        leftOut(0, "Ft" + "w09999999".repeat(6)).due("about(3)", 6);
        leftOut(1, "Ft" + "w09999999".repeat(7)).due("about(3)", 6).due("about(4)", 6);
        leftOut(0, "Ftu0w00000000" + "c000".repeat(10) + "w01111111").due("about(3)", 2).due("about(4)", 12);
        leftOut(1, "Ftu0w00000000" + "c000".repeat(11) + "w01111111").due("about(3)", 1).due("about(4)", 12);
    }

    /** "Commands that would throw an exception ... are left out" */
    private static void leavesOutEachExceptionOfTakeAndLay() {
        leftOut(1, "Ftw00000000k000").due("sheetOf(0, 3)", -1);
        leftOut(1, "Ftu0k000").due("runnerOf(0, 2)", 0);
        leftOut(1, "Ftu0w00000000k001").due("runnerOf(0, 2)", 0);
        leftOut(1, "Ftu0w00000000k100").due("runnerOf(0, 2)", 0);
        leftOut(1, "Ftu0w00000000k000k000").due("runnerOf(0, 2)", 1);
        leftOut(1, "Fttu1w00000000k000").due("runnerOf(0, 2)", 0);
        leftOut(1, "Fttr0120u0w00000000g00k000").due("runnerOf(0, 2)", 0);
        leftOut(1, "Fttr0120u0u0w00000000k000g00k100").due("runnerOf(0, 2)", 1);
        leftOut(0, "Ftu0w00000000c000c000k000k001k002").due("runnerOf(0, 2)", 7);
        leftOut(1, "Ftu0w00000000c000c000c000k000k001k002k003").due("runnerOf(0, 2)", 7);
        leftOut(1, "Ftl00").due("about(4)", 0);
        leftOut(1, "Ftu0w00000000k000l01").due("sheetOf(0, 3)", 0);
        leftOut(1, "Ftw00000000l00").due("sheetOf(0, 3)", -1);
        leftOut(1, "Fttr0120u0w00000000k000g00h19l00").due("sheetOf(0, 3)", 0);
        leftOut(0, "Ftu0w00000000k000l00").due("sheetOf(0, 3)", -1).due("sheetOf(0, 4)", 0);
        leftOut(0, "Fttr0120u0w00000000k000g00h20l00").due("sheetOf(0, 3)", -1).due("sheetOf(0, 4)", 1);
    }

    /** "Commands that would throw an exception ... are left out" */
    private static void leavesOutEachExceptionOfGo() {
        leftOut(1, "Fttr0120g00").due("about(9)", 0);
        leftOut(1, "Ftu0g00").due("about(9)", 1);
        leftOut(1, "Fttr0120u0g01").due("about(9)", 1);
        leftOut(1, "Ftttr1220u0g00").due("about(9)", 1);
        leftOut(1, "Fttr0120u0g00h19g00").due("about(9)", 0);
        leftOut(0, "Fttr0120u0g00h20g00").due("about(9)", 0).due("runnerOf(0, 1)", 20);
    }

    /** "and copies that cannot be made, are left out (these count as refused nowhere)" */
    private static void leavesOutCopiesThatCannotBeMade() {
        leftOut(1, "Ftu0w00000000c010").due("about(4)", 1).due("about(8)", 0);
        leftOut(1, "Fttr0120u0u1w00000000k000g00c000").due("about(4)", 1).due("about(8)", 0);
        leftOut(1, "Ftu0w00000009h11c000").due("about(4)", 1).due("about(8)", 0);
        leftOut(1, "Ftw00000000c000").due("about(4)", 1).due("about(8)", 0);
        leftOut(2, "Ftu0w00000000k000c000c009").due("about(4)", 1).due("about(8)", 0);
        leftOut(0, "Ftu0w00000000" + "c000".repeat(11)).due("about(4)", 12).due("about(8)", 0);
        Run full = leftOut(2, "Ftu0w00000000" + "c000".repeat(13)).due("about(4)", 12).due("about(8)", 0);
        full.due("copy(0, 0)", 4).due("about(8)", 1).due("undo()", 0).due("about(8)", 0).due("load()", 2);
        full.due("about(8)", 0);
    }

    /** What is left out is not done in part, and what stands behind it is done. */
    private static void leftOutCommandsChangeNothing() {
        String done = "Fttr0103u0u1w02718282w11234569k000g00h02c010h02";
        String more = "Fttu5r0003r0103u0g01u1w02718282k001w11234569l00k100k000g00l00g00h02c010c000h02";
        Run run = leftOut(9, more);
        Check.same("loaded without what is left out", Run.loaded(done).looks(), run.looks());
    }

    /** "a town, a runner, a road and a message are digits (0 to 5, 0 to 4, 0 to 9, 0 to 5), a sheet two digits" */
    private static void leastAndMostNumbers() {
        Run run = Run.loaded("Fttttttr5020r0501u5u4u3u2u1w59999999w50000000g00");
        run.due("roadOf(0, 0)", 5).due("roadOf(0, 1)", 0).due("roadOf(0, 2)", 20).due("roadOf(1, 2)", 1);
        run.due("runnerOf(0, 0)", 0).due("runnerOf(0, 1)", 20).due("runnerOf(4, 0)", 1);
        run.due("message(0)", 999999).due("sheetOf(0, 2)", 9).due("message(1)", 0).due("sheetOf(1, 2)", 0);
        String ten = "Ftt" + "r0120".repeat(9) + "r0107" + "u0".repeat(5);
        Run.loaded(ten + "g49h01").due("runnerOf(4, 1)", 6).due("about(5)", 1).due("about(9)", 15);
        Run.loaded(ten + "g40h60").due("runnerOf(4, 1)", 0).due("about(5)", 60).due("runnerOf(4, 3)", 20);
        String twelve = "Ft" + "u0".repeat(5) + "w01234560" + "c000".repeat(11);
        Run.loaded(twelve + "k411k400").due("runnerOf(4, 2)", 2049);
        Run.loaded(twelve + "k411k409l11").due("runnerOf(4, 2)", 512);
        Run.loaded("Ftu0w00000009" + "c000".repeat(9) + "c099").due("sheetOf(10, 2)", 9).due("sheetOf(9, 2)", 0);
        Run.loaded("Ftu0w00000009" + "c000".repeat(10) + "c100").due("about(4)", 12);
    }

    /** "The text is read from left to right." */
    private static void fromLeftToRight() {
        leftOut(1, "Fu0t").due("about(2)", 0).due("about(0)", 1);
        leftOut(0, "Ftu0").due("about(2)", 1);
        leftOut(1, "Ftr0101t").due("about(1)", 0).due("about(0)", 2);
        leftOut(0, "Ftu0w00000009h09c000").due("sheetOf(1, 6)", 101000);
        leftOut(0, "Ftu0w00000009c000h09").due("sheetOf(1, 6)", 0);
    }
}

/** Promises 1 and 6 to 10: a new object, about, roadOf, runnerOf, sheetOf, message. */
final class LookTest {
    public static void main(String[] args) {
        newObject();
        about();
        roads();
        runners();
        sheets();
        everyInk();
        messages();
        Check.end();
    }

    private static void newObject() {
        FadingSheets x = new FadingSheets();
        for (int what = 0; what <= 9; what++) {
            int which = what;
            Check.due("about(" + what + ") of a new object", 0, () -> x.about(which));
        }
        Check.noSuch("roadOf(0, 0)", () -> x.roadOf(0, 0));
        Check.noSuch("runnerOf(0, 0)", () -> x.runnerOf(0, 0));
        Check.noSuch("sheetOf(0, 0)", () -> x.sheetOf(0, 0));
        Check.noSuch("message(0)", () -> x.message(0));
        Check.noSuch("route(0, 0, 0)", () -> x.route(0, 0, 0));
        Check.notNow("undo()", x::undo);
        Check.notNow("restore(0)", () -> x.restore(0));
        Check.notNow("restore(1)", () -> x.restore(1));
        Check.due("errorPosition()", 0, x::errorPosition);
        Check.due("clearText()", 0, x::clearText);
    }

    private static void about() {
        FadingSheets x = Texts.loaded("Ftttr0104r1202u0u2u1w02718283w19999099w21111111");
        int[] due = {3, 2, 3, 3, 3, 0, 0, 0, 0, 7};
        for (int what = 0; what < due.length; what++) {
            int which = what;
            Check.due("about(" + what + ")", due[what], () -> x.about(which));
        }
        x.go(1, 1);
        Check.due("runners in towns", 5, () -> x.about(9));
        x.go(0, 0);
        Check.due("runners in towns", 4, () -> x.about(9));
        x.hours(2);
        Check.due("runners in towns", 6, () -> x.about(9));
        x.hours(18);
        Check.due("time", 20, () -> x.about(5));
        // ink 39: the place 3; ink 0: all six; ink 79: none
        Check.due("errors of all sheets", 7, () -> x.about(6));
        Check.due("sheets that cannot be read", 1, () -> x.about(7));
        x.go(0, 0);
        x.take(1, 1);
        Check.due("copy(1, 0)", 2, () -> x.copy(1, 0));
        Check.due("refused", 1, () -> x.about(8));
        x.copy(0, 0);
        Check.due("refused", 2, () -> x.about(8));
        Check.due("why() refuses nothing", 2, () -> x.why(1));
        Check.due("runScript() refuses nothing", 0, () -> x.runScript(1, 40100));
        Check.due("refused", 2, () -> x.about(8));
        Check.noSuch("copy(9, 0)", () -> x.copy(9, 0));
        Check.outOfRange("copy(0, 10)", () -> x.copy(0, 10));
        Check.due("refused", 2, () -> x.about(8));
        Check.outOfRange("about(-1)", () -> x.about(-1));
        Check.outOfRange("about(10)", () -> x.about(10));
        Check.outOfRange("about(MAX)", () -> x.about(Integer.MAX_VALUE));
    }

    private static void roads() {
        FadingSheets x = Texts.loaded("Ftttr0120r2101");
        int[][] due = {{0, 1, 20}, {2, 1, 1}};
        for (int w = 0; w < 2; w++) {
            for (int what = 0; what < 3; what++) {
                int road = w;
                int which = what;
                Check.due("roadOf(" + w + ", " + what + ")", due[w][what], () -> x.roadOf(road, which));
            }
        }
        Check.noSuch("roadOf(-1, 0)", () -> x.roadOf(-1, 0));
        Check.noSuch("roadOf(2, 0)", () -> x.roadOf(2, 0));
        Check.noSuch("roadOf(2, 3)", () -> x.roadOf(2, 3));
        Check.outOfRange("roadOf(0, -1)", () -> x.roadOf(0, -1));
        Check.outOfRange("roadOf(0, 3)", () -> x.roadOf(0, 3));
    }

    private static void runner(FadingSheets x, int r, int town, int left, int carried, int walked) {
        int[] due = {town, left, carried, walked};
        for (int what = 0; what < due.length; what++) {
            int which = what;
            Check.due("runnerOf(" + r + ", " + what + ")", due[what], () -> x.runnerOf(r, which));
        }
    }

    private static void runners() {
        FadingSheets x = Texts.loaded("Fttr0105u1u0w02718284w01111111w12222222k100k101k002");
        runner(x, 0, 1, 0, 4, 0);
        runner(x, 1, 0, 0, 3, 0);
        x.go(1, 0);
        runner(x, 1, 1, 5, 3, 0);
        x.hours(2);
        runner(x, 1, 1, 3, 3, 2);
        runner(x, 0, 1, 0, 4, 0);
        x.hours(9);
        runner(x, 1, 1, 0, 3, 5);
        x.go(1, 0);
        x.hours(1);
        runner(x, 1, 0, 4, 3, 6);
        Check.noSuch("runnerOf(-1, 0)", () -> x.runnerOf(-1, 0));
        Check.noSuch("runnerOf(2, 0)", () -> x.runnerOf(2, 0));
        Check.noSuch("runnerOf(2, 4)", () -> x.runnerOf(2, 4));
        Check.outOfRange("runnerOf(0, -1)", () -> x.runnerOf(0, -1));
        Check.outOfRange("runnerOf(0, 4)", () -> x.runnerOf(0, 4));
    }

    private static void sheet(FadingSheets x, int s, int... due) {
        for (int what = 0; what < due.length; what++) {
            int which = what;
            Check.due("sheetOf(" + s + ", " + what + ")", due[what], () -> x.sheetOf(s, which));
        }
    }

    private static void sheets() {
        FadingSheets x = Texts.loaded("Fttr0105u0u0w12222229w02718283");
        sheet(x, 0, 0, 99, 9, -1, 1, 0, 222222, 222222);
        sheet(x, 1, 1, 99, 3, -1, 0, 0, 271828, 271828);
        x.take(1, 1);
        sheet(x, 1, 1, 99, 3, 1, 0, 0, 271828, 271828);
        x.go(1, 0);
        sheet(x, 1, 1, 99, 3, 1, -1, 0, 271828, 271828);
        x.hours(8);
        sheet(x, 0, 0, 27, 9, -1, 1, 1, 222222, 222322);
        sheet(x, 1, 1, 75, 3, 1, 1, 0, 271828, 271828);
        x.hours(17);
        // ink 24: the place 0
        sheet(x, 1, 1, 24, 3, 1, 1, 1, 271828, 371828);
        sheet(x, 0, 0, 0, 9, -1, 1, 6, 222222, -1);
        Check.due("copy(1, 7) without another runner", 3, () -> x.copy(1, 7));
        x.lay(1);
        Check.due("copy(1, 7)", 0, () -> x.copy(1, 7));
        sheet(x, 2, 1, 99, 7, -1, 1, 1, 371828, 371828);
        Check.noSuch("sheetOf(-1, 0)", () -> x.sheetOf(-1, 0));
        Check.noSuch("sheetOf(3, 0)", () -> x.sheetOf(3, 0));
        Check.noSuch("sheetOf(3, 8)", () -> x.sheetOf(3, 8));
        Check.outOfRange("sheetOf(0, -1)", () -> x.sheetOf(0, -1));
        Check.outOfRange("sheetOf(0, 8)", () -> x.sheetOf(0, 8));
    }

    /** What is read of 190909 with each ink, told by the places that are read as 1 more. */
    private static void everyInk() {
        for (int k = 99; k >= 0; k--) {
            int ink = k;
            FadingSheets x = Texts.loaded("Ftw01909091");
            for (int hour = 99; hour > k; hour--) {
                x.hours(1);
            }
            char[] digits = "190909".toCharArray();
            int blurred = 0;
            if (k > 0 && k < 40) {
                digits[k % 6] = next(digits[k % 6]);
                blurred = 1;
            }
            if (k > 0 && k < 20) {
                digits[(k + 2) % 6] = next(digits[(k + 2) % 6]);
                blurred = 2;
            }
            int read = k == 0 ? -1 : Integer.parseInt(new String(digits));
            int errors = k == 0 ? 6 : blurred;
            Check.due("the ink", ink, () -> x.sheetOf(0, 1));
            Check.due("read with the ink " + k, read, () -> x.sheetOf(0, 7));
            Check.due("errors with the ink " + k, errors, () -> x.sheetOf(0, 5));
            Check.due("all errors with the ink " + k, errors, () -> x.about(6));
            Check.due("unreadable with the ink " + k, k == 0 ? 1 : 0, () -> x.about(7));
            Check.due("written with the ink " + k, 190909, () -> x.sheetOf(0, 6));
        }
    }

    private static char next(char digit) {
        return digit == '9' ? '0' : (char) (digit + 1);
    }

    private static void messages() {
        FadingSheets x = Texts.loaded("Ftw09999990w00000010h60");
        Check.due("message(0)", 999999, () -> x.message(0));
        Check.due("message(1)", 1, () -> x.message(1));
        Check.noSuch("message(2)", () -> x.message(2));
        Check.noSuch("message(-1)", () -> x.message(-1));
    }
}

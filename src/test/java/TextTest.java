/** Promises 2 to 5: append, clearText, errorPosition, load. */
final class TextTest {
    public static void main(String[] args) {
        buffer();
        errorPositions();
        everyDigitOfEveryCommand();
        loads();
        leavesOut();
        loadForgets();
        loadThatThrowsKeepsAll();
        Check.end();
    }

    private static void buffer() {
        FadingSheets x = new FadingSheets();
        Check.due("clearText() of a new object", 0, x::clearText);
        Check.outOfRange("append(-1)", () -> x.append(-1));
        Check.outOfRange("append(256)", () -> x.append(256));
        Check.outOfRange("append(MIN)", () -> x.append(Integer.MIN_VALUE));
        Check.due("append(0)", 1, () -> x.append(0));
        Check.due("append(255)", 2, () -> x.append(255));
        Check.due("clearText() of two", 2, x::clearText);
        Check.due("clearText() again", 0, x::clearText);
        for (int i = 1; i <= 120; i++) {
            int want = i;
            Check.due("append number " + i, want, () -> x.append('F'));
        }
        Check.notNow("append to 120", () -> x.append('F'));
        Check.outOfRange("append(256) to 120", () -> x.append(256));
        Check.outOfRange("append(-1) to 120", () -> x.append(-1));
        Check.due("clearText() of 120", 120, x::clearText);
        Check.due("append behind it", 1, () -> x.append('F'));
    }

    private static void error(int want, String text) {
        FadingSheets x = new FadingSheets();
        Texts.put(x, text);
        Check.due("errorPosition() of " + text, want, x::errorPosition);
        if (want == FadingSheets.NONE) {
            Check.isTrue("load() of " + text + " throws nothing", x.load() >= 0);
        } else {
            Check.notNow("load() of " + text, x::load);
        }
        Check.due("clearText() of " + text, text.length(), x::clearText);
    }

    private static void errorPositions() {
        error(0, "");
        error(0, "f");
        error(0, "t");
        error(0, " F");
        error(-1, "F");
        error(1, "FF");
        error(1, "F ");
        error(2, "Ft ");
        error(1, "Fp");
        error(1, "FT");
        error(1, "F0");
        error(-1, "Fttt");
        error(-1, "Fttttttttt");
        error(2, "Ft0");
        error(2, "Fr");
        error(3, "Fr0");
        error(4, "Fr01");
        error(5, "Fr010");
        error(-1, "Fr0101");
        error(-1, "Fr0001");
        error(3, "Fr0t");
        error(2, "Frt");
        error(2, "Fu6");
        error(7, "Fw01234");
        error(5, "Fw012t");
        error(8, "Fw012345");
        error(9, "Fw0123456");
        error(-1, "Fw01234567");
        error(10, "Fw012345678");
        error(4, "Fk00");
        error(2, "Fl");
        error(3, "Fl0");
        error(3, "Fc0");
        error(4, "Fc00");
        error(2, "Fg");
        error(3, "Fg0");
        error(2, "Fh");
        error(3, "Fh0");
        error(1, "F" + (char) 0);
        error(1, "F" + (char) 255);
        error(3, "Fh1" + (char) ('9' + 1));
        error(3, "Fh1" + (char) ('0' - 1));
        StringBuilder full = new StringBuilder("F");
        for (int i = 0; i < 119; i++) {
            full.append('t');
        }
        error(-1, full.toString());
        full.setCharAt(119, 'u');
        error(120, full.toString());
        full.setCharAt(119, 'x');
        error(119, full.toString());
    }

    /** Each command with each digit at each place: allowed only if a number that is allowed begins so. */
    private static void everyDigitOfEveryCommand() {
        numbers("r", 1, 0, 5, "001");
        numbers("r0", 1, 0, 5, "01");
        numbers("r01", 2, 1, 20, "");
        numbers("u", 1, 0, 5, "");
        numbers("w", 1, 0, 5, "0000000");
        numbers("w012345", 1, 0, 9, "0");
        numbers("w0123456", 1, 0, 9, "");
        numbers("k", 1, 0, 4, "00");
        numbers("k0", 2, 0, 11, "");
        numbers("l", 2, 0, 11, "");
        numbers("g", 1, 0, 4, "0");
        numbers("g0", 1, 0, 9, "");
        numbers("c", 2, 0, 11, "0");
        numbers("c00", 1, 0, 9, "");
        numbers("h", 2, 1, 60, "");
    }

    private static void numbers(String before, int width, int least, int most, String behind) {
        int all = width == 1 ? 10 : 100;
        for (int n = 0; n < all; n++) {
            String digits = width == 2 && n < 10 ? "0" + n : "" + n;
            int start = 1 + before.length();
            int want = FadingSheets.NONE;
            if (n < least || n > most) {
                boolean firstIsWrong = width == 1 || n / 10 * 10 > most;
                want = firstIsWrong ? start : start + 1;
            }
            error(want, "F" + before + digits + behind);
        }
    }

    private static void loads() {
        FadingSheets x = new FadingSheets();
        Texts.put(x, "Fttr0103u0u1w12718284k000g10h02c005l00");
        Check.due("load()", 3, x::load);
        Check.due("towns", 2, () -> x.about(0));
        Check.due("roads", 1, () -> x.about(1));
        Check.due("runners", 2, () -> x.about(2));
        Check.due("messages", 1, () -> x.about(3));
        Check.due("sheets", 1, () -> x.about(4));
        Check.due("time", 2, () -> x.about(5));
        Check.due("refused", 0, () -> x.about(8));
        Check.due("runners in towns", 1, () -> x.about(9));
        Check.due("the message", 271828, () -> x.message(0));
        Check.due("the ink", 91, () -> x.sheetOf(0, 1));
        Check.due("the road's hours", 3, () -> x.roadOf(0, 2));
        Check.due("hours left", 1, () -> x.runnerOf(1, 1));

        FadingSheets y = new FadingSheets();
        Texts.put(y, "Fttr0103u0u0w02718284k000g00h03k100l00c005h60");
        Check.due("load() with a command that comes too late", 1, y::load);
        Check.due("the sheet lies at town 1", 1, () -> y.sheetOf(0, 4));
        Check.due("no one carries it", -1, () -> y.sheetOf(0, 3));
        Check.due("the copy", 5, () -> y.sheetOf(1, 2));
        Check.due("time", 63, () -> y.about(5));
        Check.due("hours on roads", 3, () -> y.runnerOf(0, 3));
    }

    private static void leavesOut() {
        leftOut(1, "Fttttttt");
        leftOut(1, "Fttr0001");
        leftOut(1, "Fttr0201");
        leftOut(1, "Fu0");
        leftOut(1, "Fw00000000");
        leftOut(1, "Ftk000");
        leftOut(1, "Ftw00000000l00");
        leftOut(1, "Ftu0g00");
        leftOut(1, "Fc000");
        leftOut(1, "Ftw00000000c000");
        leftOut(0, "Ftu0w00000000c000");
        leftOut(2, "Ftu0w00000000c000k000l00h60l00k001k001");
        leftOut(5, "Ftttttt" + "u0u0u0u0u0" + "u0tu5tu4");
        FadingSheets x = Texts.loaded("Ftw00000000c000c000");
        Check.due("refused behind load()", 0, () -> x.about(8));
        Check.due("errors", 0, () -> x.about(6));
    }

    private static void leftOut(int want, String text) {
        FadingSheets x = new FadingSheets();
        Texts.put(x, text);
        Check.due("load() of " + text, want, x::load);
        Check.due("load() of " + text + " again", want, x::load);
    }

    private static void loadForgets() {
        FadingSheets x = new FadingSheets();
        x.town();
        x.town();
        x.runner(0);
        x.write(0, 123456, 1);
        x.road(0, 1, 5);
        x.copy(0, 0);
        x.take(0, 0);
        x.copy(0, 0);
        x.hours(9);
        x.save(0);
        x.save(1);
        Texts.put(x, "Ftttt");
        Check.due("load() over another country", 0, x::load);
        int[] due = {4, 0, 0, 0, 0, 0, 0, 0, 0, 0};
        for (int what = 0; what < due.length; what++) {
            int which = what;
            Check.due("about(" + what + ") behind load()", due[what], () -> x.about(which));
        }
        Check.notNow("undo() behind load()", x::undo);
        Check.notNow("restore(0) behind load()", () -> x.restore(0));
        Check.notNow("restore(1) behind load()", () -> x.restore(1));
        Check.due("the text is kept", 5, x::clearText);
        Check.notNow("load() of no text", x::load);
        Check.due("the towns are kept", 4, () -> x.about(0));
        x.town();
        Check.due("load() is no action", 0, x::undo);
    }

    private static void loadThatThrowsKeepsAll() {
        FadingSheets x = new FadingSheets();
        x.town();
        x.hours(7);
        x.save(1);
        Texts.put(x, "Fttr01");
        Check.notNow("load()", x::load);
        Check.due("the text is kept", 6, x::clearText);
        Check.due("the time is kept", 7, () -> x.about(5));
        Check.due("the slot is kept", 7, () -> x.restore(1));
        FadingSheets y = new FadingSheets();
        y.town();
        Check.notNow("load() of no text", y::load);
        Check.due("the remembered state is kept", 0, y::undo);
        Check.due("no towns", 0, () -> y.about(0));
    }
}

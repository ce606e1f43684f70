/** Promises 22 to 28: what would be, which changes nothing. */
final class ForecastTest {
    public static void main(String[] args) {
        why();
        errorsIn();
        rightFor();
        routes();
        roadTo();
        ifBrought();
        best();
        Check.end();
    }

    private static void why() {
        FadingSheets x = Texts.loaded("Fttr0105u0u1w01234569w01234560k001g00");
        Check.noSuch("why(-1)", () -> x.why(-1));
        Check.noSuch("why(2)", () -> x.why(2));
        Check.due("why(1) on a road", 1, () -> x.why(1));
        Check.due("why(0) with no runner there", 3, () -> x.why(0));
        x.hours(5);
        Check.due("why(1) with another runner", 0, () -> x.why(1));
        x.go(1, 0);
        Check.due("why(1) with the carrier alone", 3, () -> x.why(1));
        x.lay(1);
        Check.due("why(1) as it lies with one runner", 0, () -> x.why(1));
        x.hours(6);
        Check.due("why(0) without ink", 2, () -> x.why(0));
        for (int s = 2; s < 12; s++) {
            x.copy(1, 0);
        }
        Check.due("why(1) with 12 sheets", 4, () -> x.why(1));
        Check.due("why(0) without ink and with 12 sheets", 2, () -> x.why(0));
        Check.due("refused", 0, () -> x.about(8));
        Check.due("undo() of the last copy, not of why()", 13, x::undo);
        Check.due("sheets", 11, () -> x.about(4));
    }

    private static void errorsIn() {
        FadingSheets x = Texts.loaded("Ftw01909097w09999990u0");
        Check.noSuch("errorsIn(-1, 0)", () -> x.errorsIn(-1, 0));
        Check.noSuch("errorsIn(2, -1)", () -> x.errorsIn(2, -1));
        Check.outOfRange("errorsIn(0, -1)", () -> x.errorsIn(0, -1));
        Check.outOfRange("errorsIn(0, 201)", () -> x.errorsIn(0, 201));
        int[] due = {0, 0, 0, 0, 0, 0, 0, 0, 0, 1, 1, 1, 2, 2, 2, 6, 6};
        for (int n = 0; n < due.length; n++) {
            int later = n;
            Check.due("errorsIn(0, " + n + ")", due[n], () -> x.errorsIn(0, later));
        }
        Check.due("errorsIn(0, 200)", 6, () -> x.errorsIn(0, 200));
        Check.due("errorsIn(1, 200)", 0, () -> x.errorsIn(1, 200));
        Check.due("time", 0, () -> x.about(5));
        Check.due("ink", 99, () -> x.sheetOf(0, 1));
        for (int n = 0; n < 20; n++) {
            int later = n;
            FadingSheets y = Texts.loaded("Ftw01909097");
            if (n > 0) {
                y.hours(n);
            }
            Check.due("errorsIn(0, " + n + ") as with hours()", y.sheetOf(0, 5), () -> x.errorsIn(0, later));
        }
    }

    private static void rightFor() {
        FadingSheets x = Texts.loaded("Ftu0w01909091w01909090w01909099");
        Check.noSuch("rightFor(-1)", () -> x.rightFor(-1));
        Check.noSuch("rightFor(3)", () -> x.rightFor(3));
        Check.due("rightFor(0) to the ink 39", 60, () -> x.rightFor(0));
        Check.due("rightFor(1) without a fade", -1, () -> x.rightFor(1));
        Check.due("rightFor(2) to the ink 36", 7, () -> x.rightFor(2));
        x.hours(60);
        Check.due("rightFor(0) to the ink 19", 20, () -> x.rightFor(0));
        Check.due("rightFor(2) with 6 errors already", -1, () -> x.rightFor(2));
        x.hours(20);
        Check.due("rightFor(0) to no ink", 19, () -> x.rightFor(0));

        FadingSheets y = Texts.loaded("Ftu0w09999999h07c009h07c015");
        Check.due("read of 2 now", 199999, () -> y.sheetOf(2, 7));
        Check.due("errors of 2 now", 1, () -> y.sheetOf(2, 5));
        // inks 99, 94 .. 44, 39 (place 3)
        Check.due("rightFor(2)", 12, () -> y.rightFor(2));
        FadingSheets z = Texts.loaded("Ftu0w00000003h20c003");
        // copied with the ink 39, it is wrong at the place 3 only, again so with 39 itself
        Check.due("written on 1", 100, () -> z.sheetOf(1, 6));
        Check.due("errors with the ink 39", 1, () -> z.errorsIn(1, 20));
        Check.due("errors with the ink 36", 2, () -> z.errorsIn(1, 21));
        Check.due("rightFor(1)", 21, () -> z.rightFor(1));
    }

    private static void bothWays(FadingSheets x, int a, int b, int want) {
        Check.due("route(" + a + ", " + b + ", 0)", want, () -> x.route(a, b, 0));
        Check.due("route(" + a + ", " + b + ", 1)", want, () -> x.route(a, b, 1));
    }

    private static void routes() {
        FadingSheets x = Texts.loaded("Fttttttr4320r3219r2118r1017r4302r4101u0");
        Check.noSuch("route(-1, 0, 0)", () -> x.route(-1, 0, 0));
        Check.noSuch("route(0, 6, 2)", () -> x.route(0, 6, 2));
        Check.outOfRange("route(0, 1, 2)", () -> x.route(0, 1, 2));
        Check.outOfRange("route(0, 1, -1)", () -> x.route(0, 1, -1));
        int[][] due = {
            {0, 17, 35, 20, 18, -1},
            {17, 0, 18, 3, 1, -1},
            {35, 18, 0, 19, 19, -1},
            {20, 3, 19, 0, 2, -1},
            {18, 1, 19, 2, 0, -1},
            {-1, -1, -1, -1, -1, 0},
        };
        for (int a = 0; a < 6; a++) {
            for (int b = 0; b < 6; b++) {
                bothWays(x, a, b, due[a][b]);
            }
        }
        FadingSheets y = Texts.loaded("Fttttttr0120r1220r2320r3420r4520");
        bothWays(y, 0, 5, 100);
        bothWays(y, 5, 0, 100);
        FadingSheets z = Texts.loaded("Fttttttr4520r3420r2320r1220r0120");
        bothWays(z, 0, 5, 100);
        bothWays(z, 5, 0, 100);
        FadingSheets w = Texts.loaded("Ftttr0220r0102r1203");
        bothWays(w, 0, 2, 5);
        bothWays(w, 2, 0, 5);
    }

    private static void roadTo() {
        FadingSheets x = Texts.loaded("Fttttttr0210r0104r1206r0104r0120r2401r3401");
        Check.noSuch("roadTo(-1, 0)", () -> x.roadTo(-1, 0));
        Check.noSuch("roadTo(0, 6)", () -> x.roadTo(0, 6));
        Check.due("roadTo(0, 0)", -1, () -> x.roadTo(0, 0));
        Check.due("roadTo(0, 5)", -1, () -> x.roadTo(0, 5));
        Check.due("roadTo(5, 0)", -1, () -> x.roadTo(5, 0));
        Check.due("roadTo(0, 2), two ways of 10", 0, () -> x.roadTo(0, 2));
        Check.due("roadTo(0, 1), the lower one of two", 1, () -> x.roadTo(0, 1));
        Check.due("roadTo(1, 0)", 1, () -> x.roadTo(1, 0));
        Check.due("roadTo(1, 2)", 2, () -> x.roadTo(1, 2));
        Check.due("roadTo(2, 0)", 0, () -> x.roadTo(2, 0));
        Check.due("roadTo(2, 1)", 2, () -> x.roadTo(2, 1));
        Check.due("roadTo(2, 3)", 5, () -> x.roadTo(2, 3));
        Check.due("roadTo(3, 0)", 6, () -> x.roadTo(3, 0));
        Check.due("roadTo(0, 3)", 0, () -> x.roadTo(0, 3));
        FadingSheets y = Texts.loaded("Ftttr0220r0105r1214");
        Check.due("roadTo(0, 2) by way of 1", 1, () -> y.roadTo(0, 2));
        Check.due("roadTo(2, 0) by way of 1", 2, () -> y.roadTo(2, 0));
    }

    private static void ifBrought() {
        FadingSheets x = Texts.loaded("Fttttr0110r1205u0w00000004w11111119w00000000k000");
        Check.noSuch("ifBrought(-1, 0)", () -> x.ifBrought(-1, 0));
        Check.noSuch("ifBrought(3, 0)", () -> x.ifBrought(3, 0));
        Check.noSuch("ifBrought(0, 4)", () -> x.ifBrought(0, 4));
        Check.noSuch("ifBrought(0, -1)", () -> x.ifBrought(0, -1));
        Check.due("where it is", 0, () -> x.ifBrought(0, 0));
        Check.due("10 hours", 0, () -> x.ifBrought(0, 1));
        Check.due("15 hours: the ink 39", 1, () -> x.ifBrought(0, 2));
        Check.due("no way", -1, () -> x.ifBrought(0, 3));
        Check.due("from where it lies, 10 hours: the ink 9", 2, () -> x.ifBrought(1, 0));
        Check.due("from where it lies, 5 hours", 0, () -> x.ifBrought(1, 2));
        Check.due("without a fade", 0, () -> x.ifBrought(2, 2));
        x.go(0, 0);
        Check.due("from a road, 10 hours", 0, () -> x.ifBrought(0, 1));
        Check.due("from a road, 15 hours", 1, () -> x.ifBrought(0, 2));
        Check.due("from a road to its end and back, 20 hours: the ink 19", 2, () -> x.ifBrought(0, 0));
        Check.due("from a road, no way", -1, () -> x.ifBrought(0, 3));
        x.hours(4);
        Check.due("from a road, 6 hours: the ink 59", 0, () -> x.ifBrought(0, 1));
        Check.due("from a road, 16 hours: the ink 19", 2, () -> x.ifBrought(0, 0));
        x.hours(6);
        Check.due("from the other town, 10 hours, the ink 19", 2, () -> x.ifBrought(0, 0));
        Check.due("from the other town, 5 hours, the ink 39", 1, () -> x.ifBrought(0, 2));
        Check.due("where it is", 0, () -> x.ifBrought(0, 1));
        x.lay(0);
        x.go(0, 1);
        Check.due("from where it lies", 1, () -> x.ifBrought(0, 2));
        Check.due("ink", 59, () -> x.sheetOf(0, 1));
    }

    private static void best() {
        FadingSheets x = Texts.loaded("Ftu0w01111119w02222220");
        Check.noSuch("best(-1)", () -> x.best(-1));
        Check.noSuch("best(2)", () -> x.best(2));
        Check.due("best(0)", 0, () -> x.best(0));
        Check.due("best(1)", 1, () -> x.best(1));
        x.hours(1);
        x.copy(0, 9);
        x.copy(0, 9);
        Check.due("best(0): the most ink, of two the lowest", 2, () -> x.best(0));
        x.copy(1, 9);
        Check.due("best(1): of two the lowest", 1, () -> x.best(1));
        x.hours(6);
        Check.due("best(0): the fewest errors", 2, () -> x.best(0));
        x.copy(0, 0);
        Check.due("the copy has more ink, but an error", 1, () -> x.sheetOf(5, 5));
        Check.due("best(0): the fewest errors ahead of the ink", 2, () -> x.best(0));
        x.hours(4);
        Check.due("all have errors: the fewest", 5, () -> x.best(0));
        Check.due("best(1) without a fade", 1, () -> x.best(1));
        FadingSheets y = Texts.loaded("Ftw01111119h60");
        Check.due("best(0) of what cannot be read", 0, () -> y.best(0));
    }
}

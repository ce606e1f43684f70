/** Promises 11 to 21: the actions and undo. */
final class ActionTest {
    public static void main(String[] args) {
        towns();
        roads();
        runners();
        writes();
        takes();
        lays();
        goes();
        copies();
        copyReasonsInOrder();
        proofs();
        proofReasonsInOrder();
        hours();
        undo();
        Check.end();
    }

    private static void towns() {
        FadingSheets x = new FadingSheets();
        for (int t = 0; t < 6; t++) {
            Check.due("town()", t, x::town);
        }
        Check.notNow("a seventh town()", x::town);
        Check.due("towns", 6, () -> x.about(0));
    }

    private static void roads() {
        FadingSheets x = Texts.loaded("Fttt");
        Check.noSuch("road(-1, 0, 1)", () -> x.road(-1, 0, 1));
        Check.noSuch("road(0, 3, 1)", () -> x.road(0, 3, 1));
        Check.noSuch("road(3, 3, 0)", () -> x.road(3, 3, 0));
        Check.outOfRange("road(1, 1, 1)", () -> x.road(1, 1, 1));
        Check.outOfRange("road(0, 1, 0)", () -> x.road(0, 1, 0));
        Check.outOfRange("road(0, 1, 21)", () -> x.road(0, 1, 21));
        for (int w = 0; w < 10; w++) {
            int road = w;
            Check.due("road(2, 0, " + (1 + w) + ")", w, () -> x.road(2, 0, 1 + road));
        }
        Check.notNow("an eleventh road", () -> x.road(0, 1, 20));
        Check.outOfRange("an eleventh road of 0 hours", () -> x.road(0, 1, 0));
        Check.noSuch("an eleventh road to nowhere", () -> x.road(0, 9, 0));
        Check.due("roads", 10, () -> x.about(1));
    }

    private static void runners() {
        FadingSheets x = Texts.loaded("Ftt");
        Check.noSuch("runner(2)", () -> x.runner(2));
        Check.noSuch("runner(-1)", () -> x.runner(-1));
        for (int r = 0; r < 5; r++) {
            int town = r % 2;
            Check.due("runner(" + town + ")", r, () -> x.runner(town));
        }
        Check.notNow("a sixth runner", () -> x.runner(0));
        Check.noSuch("a sixth runner nowhere", () -> x.runner(2));
        Check.due("where the runner 3 is", 1, () -> x.runnerOf(3, 0));
    }

    private static void writes() {
        FadingSheets x = Texts.loaded("Ftt");
        Check.noSuch("write(2, 0, 0)", () -> x.write(2, 0, 0));
        Check.noSuch("write(-1, -1, -1)", () -> x.write(-1, -1, -1));
        Check.outOfRange("write(0, -1, 0)", () -> x.write(0, -1, 0));
        Check.outOfRange("write(0, 1000000, 0)", () -> x.write(0, 1000000, 0));
        Check.outOfRange("write(0, 0, -1)", () -> x.write(0, 0, -1));
        Check.outOfRange("write(0, 0, 10)", () -> x.write(0, 0, 10));
        for (int m = 0; m < 6; m++) {
            int message = m;
            Check.due("write()", m, () -> x.write(1, 999999 - message, 9));
        }
        Check.due("message(5)", 999994, () -> x.message(5));
        Check.due("its sheet lies", 1, () -> x.sheetOf(5, 4));
        Check.due("its sheet's fade", 9, () -> x.sheetOf(5, 2));
        Check.notNow("a seventh message", () -> x.write(0, 0, 0));
        Check.outOfRange("a seventh message of fade 10", () -> x.write(0, 0, 10));
        Check.noSuch("a seventh message nowhere", () -> x.write(7, 0, 10));

        FadingSheets y = Texts.loaded("Ftu0w01234560c000c000c000c000c000c000c000c000c000c000c000");
        Check.due("sheets", 12, () -> y.about(4));
        Check.notNow("write() with 12 sheets", () -> y.write(0, 0, 0));
        Check.due("messages", 1, () -> y.about(3));
    }

    private static void takes() {
        FadingSheets x = Texts.loaded("Fttr0102u0u0u1w01111110w02222220w03333330w04444440w15555550");
        Check.noSuch("take(3, 0)", () -> x.take(3, 0));
        Check.noSuch("take(-1, 0)", () -> x.take(-1, 0));
        Check.noSuch("take(0, 5)", () -> x.take(0, 5));
        Check.noSuch("take(0, -1)", () -> x.take(0, -1));
        Check.due("take(0, 0)", 1, () -> x.take(0, 0));
        Check.notNow("take(0, 0) again", () -> x.take(0, 0));
        Check.notNow("take() from another town", () -> x.take(0, 4));
        Check.due("take(0, 2)", 2, () -> x.take(0, 2));
        Check.due("take(0, 3)", 3, () -> x.take(0, 3));
        Check.notNow("take() of a fourth one", () -> x.take(0, 1));
        Check.due("take(1, 2) from the runner 0", 1, () -> x.take(1, 2));
        Check.due("carried by 0", 9, () -> x.runnerOf(0, 2));
        Check.due("carried by 1", 4, () -> x.runnerOf(1, 2));
        Check.due("take(0, 1)", 3, () -> x.take(0, 1));
        x.go(0, 0);
        Check.notNow("take() on a road", () -> x.take(0, 4));
        Check.notNow("take() of what is on a road", () -> x.take(1, 0));
        Check.notNow("take() of it where it goes to", () -> x.take(2, 0));
        x.hours(1);
        Check.notNow("take() with an hour left", () -> x.take(0, 4));
        Check.notNow("take() of what has an hour left", () -> x.take(2, 0));
        x.hours(1);
        Check.notNow("take() from another town", () -> x.take(1, 0));
        Check.due("take() where it came to", 1, () -> x.take(2, 0));
        Check.due("carried by 0", 10, () -> x.runnerOf(0, 2));
        Check.due("its carrier", 2, () -> x.sheetOf(0, 3));
    }

    private static void lays() {
        FadingSheets x = Texts.loaded("Fttr0102u0w01111110k000");
        Check.noSuch("lay(1)", () -> x.lay(1));
        Check.noSuch("lay(-1)", () -> x.lay(-1));
        Check.due("lay(0)", 0, () -> x.lay(0));
        Check.notNow("lay(0) of what lies", () -> x.lay(0));
        x.take(0, 0);
        x.go(0, 0);
        Check.notNow("lay(0) on a road", () -> x.lay(0));
        x.hours(2);
        Check.due("lay(0) in the other town", 1, () -> x.lay(0));
        Check.due("it lies", -1, () -> x.sheetOf(0, 3));
        Check.due("carried by 0", 0, () -> x.runnerOf(0, 2));
        x.go(0, 0);
        Check.due("it stays", 1, () -> x.sheetOf(0, 4));
    }

    private static void goes() {
        FadingSheets x = Texts.loaded("Ftttr0102r1203u0");
        Check.noSuch("go(1, 0)", () -> x.go(1, 0));
        Check.noSuch("go(-1, 0)", () -> x.go(-1, 0));
        Check.noSuch("go(0, 2)", () -> x.go(0, 2));
        Check.noSuch("go(0, -1)", () -> x.go(0, -1));
        Check.notNow("go() on a road of other towns", () -> x.go(0, 1));
        Check.due("go(0, 0)", 1, () -> x.go(0, 0));
        Check.notNow("go() on a road", () -> x.go(0, 0));
        Check.notNow("go() before the town is reached", () -> x.go(0, 1));
        Check.due("hours(1)", 0, () -> x.hours(1));
        Check.notNow("go() with an hour left", () -> x.go(0, 1));
        Check.due("hours(1)", 1, () -> x.hours(1));
        Check.due("go(0, 1)", 2, () -> x.go(0, 1));
        x.hours(3);
        Check.notNow("go() on a road of other towns", () -> x.go(0, 0));
        Check.due("go(0, 1) back", 1, () -> x.go(0, 1));
        Check.due("hours left", 3, () -> x.runnerOf(0, 1));
        Check.due("where the runner goes", 1, () -> x.runnerOf(0, 0));
    }

    private static void copies() {
        FadingSheets x = Texts.loaded("Ftu0w01909099w02222220h09");
        Check.noSuch("copy(2, 0)", () -> x.copy(2, 0));
        Check.noSuch("copy(-1, 10)", () -> x.copy(-1, 10));
        Check.outOfRange("copy(0, -1)", () -> x.copy(0, -1));
        Check.outOfRange("copy(0, 10)", () -> x.copy(0, 10));
        // ink 18: the places 0 and 2
        Check.due("copy(0, 9)", 0, () -> x.copy(0, 9));
        Check.due("its message", 0, () -> x.sheetOf(2, 0));
        Check.due("its ink", 99, () -> x.sheetOf(2, 1));
        Check.due("its fade", 9, () -> x.sheetOf(2, 2));
        Check.due("its carrier", -1, () -> x.sheetOf(2, 3));
        Check.due("its town", 0, () -> x.sheetOf(2, 4));
        Check.due("its errors", 2, () -> x.sheetOf(2, 5));
        Check.due("its digits", 291909, () -> x.sheetOf(2, 6));
        Check.due("the first one's digits", 190909, () -> x.sheetOf(0, 6));
        Check.due("the first one's ink", 18, () -> x.sheetOf(0, 1));
        x.hours(7);
        // ink 36: the place 0 once more
        Check.due("copy(2, 0)", 0, () -> x.copy(2, 0));
        Check.due("the copy of the copy", 391909, () -> x.sheetOf(3, 6));
        Check.due("its errors", 2, () -> x.sheetOf(3, 5));
        x.take(0, 3);
        Check.due("copy() of what the only runner carries", 3, () -> x.copy(3, 0));
        Check.due("copy() of another message", 0, () -> x.copy(1, 4));
        Check.due("its message", 1, () -> x.sheetOf(4, 0));
    }

    private static void copyReasonsInOrder() {
        FadingSheets x = Texts.loaded("Fttr0120u0u1w01111119w02222220w12222220k000k001g00h19");
        Check.due("1 ahead of 2", 1, () -> x.copy(0, 0));
        Check.due("1", 1, () -> x.copy(1, 0));
        x.hours(1);
        Check.due("2", 2, () -> x.copy(0, 0));
        Check.due("with another runner", 0, () -> x.copy(1, 0));
        x.go(1, 0);
        Check.due("2 ahead of 3", 2, () -> x.copy(0, 0));
        Check.due("3", 3, () -> x.copy(1, 0));
        Check.due("a sheet that lies with one runner", 0, () -> x.copy(2, 0));
        for (int i = 5; i < 12; i++) {
            Check.due("copy number " + i, 0, () -> x.copy(2, 0));
        }
        Check.due("12 sheets", 12, () -> x.about(4));
        Check.due("4", 4, () -> x.copy(2, 0));
        Check.due("3 ahead of 4", 3, () -> x.copy(1, 0));
        Check.due("12 sheets still", 12, () -> x.about(4));
        Check.due("refused", 7, () -> x.about(8));
        x.go(0, 0);
        Check.due("3 without any runner", 3, () -> x.copy(2, 0));
        for (int s = 0; s < 3; s++) {
            int sheet = s;
            Check.due("why(" + s + ") tells what copy() does", x.why(s), () -> x.copy(sheet, 0));
        }
    }

    private static void proofs() {
        // the sheets 0 to 3 of 555555: the inks 45, 18 (places 0, 2), 36 (place 0), 27 (place 3)
        FadingSheets x = Texts.loaded("Fttr0101u0w05555556c009c007c008w01111110h09");
        Check.noSuch("proof(0, 1, 5, 0)", () -> x.proof(0, 1, 5, 0));
        Check.noSuch("proof(0, -1, 2, 0)", () -> x.proof(0, -1, 2, 0));
        Check.noSuch("proof(9, 9, 9, 10)", () -> x.proof(9, 9, 9, 10));
        Check.outOfRange("proof(0, 0, 1, 0)", () -> x.proof(0, 0, 1, 0));
        Check.outOfRange("proof(0, 1, 0, 0)", () -> x.proof(0, 1, 0, 0));
        Check.outOfRange("proof(1, 0, 0, 0)", () -> x.proof(1, 0, 0, 0));
        Check.outOfRange("proof(0, 1, 4, 0)", () -> x.proof(0, 1, 4, 0));
        Check.outOfRange("proof(0, 4, 1, 0)", () -> x.proof(0, 4, 1, 0));
        Check.outOfRange("proof(4, 0, 1, 0)", () -> x.proof(4, 0, 1, 0));
        Check.outOfRange("proof(0, 1, 2, -1)", () -> x.proof(0, 1, 2, -1));
        Check.outOfRange("proof(0, 1, 2, 10)", () -> x.proof(0, 1, 2, 10));
        Check.due("nothing was refused", 0, () -> x.about(8));
        Check.due("read of 1", 656555, () -> x.sheetOf(1, 7));
        Check.due("read of 2", 655555, () -> x.sheetOf(2, 7));
        Check.due("read of 3", 555655, () -> x.sheetOf(3, 7));
        Check.due("proof(1, 2, 3, 3)", 0, () -> x.proof(1, 2, 3, 3));
        Check.due("its digits", 655555, () -> x.sheetOf(5, 6));
        Check.due("its message", 0, () -> x.sheetOf(5, 0));
        Check.due("its ink", 99, () -> x.sheetOf(5, 1));
        Check.due("its fade", 3, () -> x.sheetOf(5, 2));
        Check.due("its carrier", -1, () -> x.sheetOf(5, 3));
        Check.due("its town", 0, () -> x.sheetOf(5, 4));
        Check.due("its errors", 1, () -> x.sheetOf(5, 5));
        Check.due("proof(0, 1, 3, 9)", 0, () -> x.proof(0, 1, 3, 9));
        Check.due("its digits", 555555, () -> x.sheetOf(6, 6));
        Check.due("its errors", 0, () -> x.sheetOf(6, 5));

        // all three unlike at the place 0: 000000, 100000 and 200000
        FadingSheets y = Texts.loaded("Ftu0w00000000c009h07c010c019h07c030");
        Check.due("read of 0", 0, () -> y.sheetOf(0, 7));
        Check.due("read of 2", 100000, () -> y.sheetOf(2, 7));
        Check.due("read of 4", 200000, () -> y.sheetOf(4, 7));
        Check.due("proof(0, 2, 4, 0)", 0, () -> y.proof(0, 2, 4, 0));
        Check.due("the first one's digit", 0, () -> y.sheetOf(5, 6));
        Check.due("proof(2, 4, 0, 0)", 0, () -> y.proof(2, 4, 0, 0));
        Check.due("the first one's digit", 100000, () -> y.sheetOf(6, 6));
        Check.due("proof(4, 0, 2, 0)", 0, () -> y.proof(4, 0, 2, 0));
        Check.due("the first one's digit", 200000, () -> y.sheetOf(7, 6));
        Check.due("its errors", 1, () -> y.sheetOf(7, 5));
        Check.due("proof(0, 2, 6, 0)", 0, () -> y.proof(0, 2, 6, 0));
        Check.due("the digit of the other two", 100000, () -> y.sheetOf(8, 6));
        Check.due("proof(2, 0, 6, 0)", 0, () -> y.proof(2, 0, 6, 0));
        Check.due("the digit of the first and the last one", 100000, () -> y.sheetOf(9, 6));
        y.take(0, 0);
        Check.due("a proof with the carrier alone there", 0, () -> y.proof(0, 2, 6, 0));
    }

    private static void proofReasonsInOrder() {
        FadingSheets x = Texts.loaded("Fttr0120u0u0w01234560c001c002c009k000g00h10");
        Check.due("1: the first is on a road", 1, () -> x.proof(0, 1, 2, 0));
        Check.due("1: the second is on a road", 1, () -> x.proof(1, 0, 2, 0));
        Check.due("1: the third is on a road", 1, () -> x.proof(1, 2, 0, 0));
        x.hours(10);
        Check.due("1: unlike towns", 1, () -> x.proof(0, 1, 2, 0));
        Check.due("1: unlike towns", 1, () -> x.proof(1, 2, 0, 0));
        Check.due("1 ahead of 2", 1, () -> x.proof(3, 1, 0, 0));
        Check.due("2: the first one", 2, () -> x.proof(3, 1, 2, 0));
        Check.due("2: the second one", 2, () -> x.proof(1, 3, 2, 0));
        Check.due("2: the third one", 2, () -> x.proof(1, 2, 3, 0));
        Check.due("refused", 9, () -> x.about(8));
        Check.due("copy(1, 0)", 0, () -> x.copy(1, 0));
        Check.due("proof(1, 2, 4, 0)", 0, () -> x.proof(1, 2, 4, 0));
        x.go(1, 0);
        Check.due("2 ahead of 3", 2, () -> x.proof(1, 2, 3, 0));
        Check.due("3", 3, () -> x.proof(1, 2, 4, 0));
        x.undo();
        x.undo();
        x.undo();
        for (int s = 6; s < 12; s++) {
            x.copy(1, 0);
        }
        Check.due("12 sheets", 12, () -> x.about(4));
        Check.due("4", 4, () -> x.proof(1, 2, 4, 0));
        Check.due("2 ahead of 4", 2, () -> x.proof(1, 2, 3, 0));
        x.go(1, 0);
        Check.due("3 ahead of 4", 3, () -> x.proof(1, 2, 4, 0));
        Check.due("refused", 12, () -> x.about(8));

        FadingSheets y = Texts.loaded("Fttr0101r0102u0u0w01234560c000c000k000k001k102g00g11");
        Check.due("1: all three on roads", 1, () -> y.proof(0, 1, 2, 0));
        y.hours(1);
        Check.due("1: one still on a road", 1, () -> y.proof(0, 1, 2, 0));
        y.hours(1);
        Check.due("all three brought", 0, () -> y.proof(0, 1, 2, 0));
        Check.due("the proof lies there", 1, () -> y.sheetOf(3, 4));
    }

    private static void hours() {
        FadingSheets x = Texts.loaded("Fttr0103u0u0u1w01234560w01234567");
        Check.outOfRange("hours(0)", () -> x.hours(0));
        Check.outOfRange("hours(-1)", () -> x.hours(-1));
        Check.outOfRange("hours(61)", () -> x.hours(61));
        Check.due("hours(1) without anyone on a road", 0, () -> x.hours(1));
        x.go(0, 0);
        Check.due("hours(1)", 0, () -> x.hours(1));
        x.go(1, 0);
        x.go(2, 0);
        Check.due("hours(1)", 0, () -> x.hours(1));
        Check.due("hours(1) to the end of the first one's road", 1, () -> x.hours(1));
        Check.due("hours(1) to the end of two more", 2, () -> x.hours(1));
        Check.due("hours left", 0, () -> x.runnerOf(1, 1));
        Check.due("time", 5, () -> x.about(5));
        Check.due("ink with the fade 0", 99, () -> x.sheetOf(0, 1));
        Check.due("ink with the fade 7", 64, () -> x.sheetOf(1, 1));
        x.go(0, 0);
        x.go(2, 0);
        Check.due("hours(60)", 2, () -> x.hours(60));
        Check.due("time", 65, () -> x.about(5));
        Check.due("ink not below 0", 0, () -> x.sheetOf(1, 1));
        Check.due("hours on roads", 6, () -> x.runnerOf(0, 3));
        Check.due("hours on roads", 3, () -> x.runnerOf(1, 3));
    }

    private static void undo() {
        FadingSheets x = new FadingSheets();
        Check.notNow("undo() of nothing", x::undo);
        x.town();
        Check.noSuch("lay(0)", () -> x.lay(0));
        x.append('F');
        x.save(0);
        x.about(0);
        x.route(0, 0, 0);
        x.runScript(1, 50001);
        x.simulate(1, 60);
        x.errorPosition();
        Check.due("undo() of the only action", 0, x::undo);
        Check.notNow("undo() again", x::undo);
        Check.due("the text is kept", 1, x::clearText);
        Check.due("the slot is kept", 0, () -> x.restore(0));
        Check.due("towns", 1, () -> x.about(0));

        for (int i = 1; i <= 20; i++) {
            x.hours(1);
        }
        for (int i = 13; i >= 0; i--) {
            int rest = i;
            Check.due("undo()", rest, x::undo);
            Check.due("time", 6 + rest, () -> x.about(5));
        }
        Check.notNow("undo() of the 15th last", x::undo);
        Check.due("time", 6, () -> x.about(5));
        for (int i = 0; i < 5; i++) {
            x.hours(2);
        }
        Check.due("undo()", 4, x::undo);
        x.hours(5);
        Check.due("undo() of the newer one", 4, x::undo);
        Check.due("time", 14, () -> x.about(5));
        Check.due("undo()", 3, x::undo);
        Check.due("time", 12, () -> x.about(5));
    }
}

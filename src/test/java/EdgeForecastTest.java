/** The bounds of promises 22 to 28: what would be (each row of a Run checks that it changes nothing). */
final class EdgeForecastTest {
    private static final String MIN = String.valueOf(Integer.MIN_VALUE);
    private static final String MAX = String.valueOf(Integer.MAX_VALUE);
    private static final String LINE = "Fttttttr0120r1220r2320r3420r4520";

    public static void main(String[] args) {
        whyOfNoSuch();
        whyTellsWhatCopyDoes();
        errorsInOfNoSuch();
        errorsInOutOfRange();
        errorsInAtEachBound();
        errorsInAsHoursDo();
        rightForOfNoSuch();
        rightForLeast();
        rightForNone();
        rightForMoreThanNow();
        routeOfNoSuch();
        routeOutOfRange();
        routeOfTheSameTown();
        routeWithoutAWay();
        routeLongest();
        routeShortest();
        routesInBothWays();
        roadToOfNoSuch();
        roadToNone();
        roadToLowest();
        ifBroughtOfNoSuch();
        ifBroughtWhereItIs();
        ifBroughtWithoutAWay();
        ifBroughtFromARoad();
        ifBroughtAtEachBound();
        bestOfNoSuch();
        bestByErrors();
        bestByInk();
        bestLowest();
        Check.end();
    }

    /** Promise 22: "IndexOutOfBoundsException if there is no such sheet" */
    private static void whyOfNoSuch() {
        Run run = Run.loaded("Ftu0").noSuch("why(0)").does("write(0, 0, 0)").due("why(0)", 0);
        run.noSuch("why(-1)", "why(1)", "why(" + MIN + ")", "why(" + MAX + ")");
        Run.full().noSuch("why(12)", "why(-1)").due("why(11)", 4).due("why(5)", 3).due("about(8)", 0);
    }

    /** Promise 22: "Returns the reason; 0 if it can be."; each of 0 to 4, and no sheet is made */
    private static void whyTellsWhatCopyDoes() {
        String[] texts = {"Ftu0w00000000", "Fttr0102u0w00000000k000g00", "Ftu0w00000009h11", "Ftw00000000",
            "Ftu0w00000000" + "c000".repeat(11)};
        for (int reason = 0; reason <= 4; reason++) {
            Run run = Run.loaded(texts[reason]).due("why(0)", reason).due("about(4)", reason == 4 ? 12 : 1);
            run.due("about(8)", 0).due("copy(0, 0)", reason).due("about(8)", reason == 0 ? 0 : 1);
        }
    }

    /** Promise 23: "IndexOutOfBoundsException if there is no such sheet", where n is out of range too */
    private static void errorsInOfNoSuch() {
        Run run = Run.loaded("Ft").noSuch("errorsIn(0, 0)", "errorsIn(0, 201)").does("write(0, 0, 0)");
        run.noSuch("errorsIn(-1, 0)", "errorsIn(1, 0)", "errorsIn(" + MIN + ", 0)", "errorsIn(" + MAX + ", 0)");
        run.noSuch("errorsIn(1, -1)", "errorsIn(-1, 201)", "errorsIn(1, 201)");
        Run.full().noSuch("errorsIn(12, 0)").due("errorsIn(11, 19)", 2).due("errorsIn(11, 20)", 6);
    }

    /** Promise 23: "IllegalArgumentException if n is out of range" */
    private static void errorsInOutOfRange() {
        Run run = Run.loaded("Ftw00000009w00000000").outOfRange("errorsIn(0, -1)", "errorsIn(0, 201)");
        run.outOfRange("errorsIn(0, " + MIN + ")", "errorsIn(0, " + MAX + ")", "errorsIn(1, 201)");
        run.due("errorsIn(0, 0)", 0).due("errorsIn(0, 200)", 6).due("errorsIn(1, 0)", 0).due("errorsIn(1, 200)", 0);
    }

    /** Promise 23: "Returns its errors behind n hours.": at the inks 40, 39, 20, 19, 1 and 0 */
    private static void errorsInAtEachBound() {
        Run run = Run.loaded("Ftw09999991").due("errorsIn(0, 59)", 0).due("errorsIn(0, 60)", 1);
        run.due("errorsIn(0, 79)", 1).due("errorsIn(0, 80)", 2).due("errorsIn(0, 98)", 2).due("errorsIn(0, 99)", 6);
        run.due("errorsIn(0, 100)", 6).due("errorsIn(0, 200)", 6).does("hours(40)").due("errorsIn(0, 19)", 0);
        run.due("errorsIn(0, 20)", 1).due("errorsIn(0, 39)", 1).due("errorsIn(0, 40)", 2).due("errorsIn(0, 58)", 2);
        run.due("errorsIn(0, 59)", 6).does("hours(59)").due("errorsIn(0, 0)", 6).due("errorsIn(0, 200)", 6);
    }

    /** Promise 23, each fade: what it tells is what is there behind the hours */
    private static void errorsInAsHoursDo() {
        for (int fade = 0; fade <= 9; fade++) {
            String text = "Ftu0w0909190" + fade + "h07c00" + fade;
            Run run = Run.loaded(text);
            for (int n = 0; n <= 200; n += n < 20 ? 1 : 30) {
                Run later = Run.loaded(text);
                for (int rest = n; rest > 0; rest -= 60) {
                    later.does("hours(" + Math.min(60, rest) + ")");
                }
                int sheets = Integer.parseInt(later.answer("about(4)"));
                for (int s = 0; s < sheets; s++) {
                    int want = Integer.parseInt(later.answer("sheetOf(" + s + ", 5)"));
                    run.due("errorsIn(" + s + ", " + n + ")", want);
                }
            }
        }
    }

    /** Promise 24: "IndexOutOfBoundsException if there is no such sheet" */
    private static void rightForOfNoSuch() {
        Run run = Run.loaded("Ft").noSuch("rightFor(0)").does("write(0, 0, 0)").due("rightFor(0)", -1);
        run.noSuch("rightFor(-1)", "rightFor(1)", "rightFor(" + MIN + ")", "rightFor(" + MAX + ")");
        Run.full().noSuch("rightFor(12)").due("rightFor(11)", 12);
    }

    /** Promise 24: "the least n, 1 to 200, for which it has more errors behind n hours than now" */
    private static void rightForLeast() {
        int[] due = {60, 30, 20, 15, 12, 10, 9, 8, 7};
        for (int fade = 1; fade <= 9; fade++) {
            Run.loaded("Ftw0000000" + fade).due("rightFor(0)", due[fade - 1]);
        }
        Run run = Run.loaded("Ftw00000001h59").due("rightFor(0)", 1).does("hours(1)").due("rightFor(0)", 20);
        run.does("hours(19)").due("rightFor(0)", 1).does("hours(1)").due("rightFor(0)", 19).does("hours(18)");
        run.due("sheetOf(0, 1)", 1).due("rightFor(0)", 1).does("hours(1)").due("rightFor(0)", -1);
        Run.loaded("Ftw00000009h06").due("rightFor(0)", 1).does("hours(1)").due("rightFor(0)", 2);
    }

    /** Promise 24: "NONE if there is none": without a fade, without ink, and with 6 errors that are read */
    private static void rightForNone() {
        Run.loaded("Ftw00000000").due("rightFor(0)", -1).does("hours(60)").due("rightFor(0)", -1);
        Run.loaded("Ftw00000009h11").due("rightFor(0)", -1).due("sheetOf(0, 5)", 6);
        Run wrong = Run.loaded("Ftu0w00000007h13c009h09c018h10c028h08c039").due("sheetOf(4, 5)", 6);
        wrong.due("sheetOf(4, 2)", 9).due("sheetOf(4, 7)", 112111).due("rightFor(4)", -1);
    }

    /** Promise 24, "more errors": as many or fewer are not enough */
    private static void rightForMoreThanNow() {
        // written with an error at the place 3, which the ink 39 blurs once more
        Run same = Run.loaded("Ftu0w00000003h20c003").due("errorsIn(1, 20)", 1).due("errorsIn(1, 21)", 2);
        same.due("rightFor(1)", 21);
        // the last of ten copies of copies is right again, and the ninth becomes right when it is blurred
        StringBuilder text = new StringBuilder("Ftu0w00000009");
        for (int s = 0; s < 8; s++) {
            text.append("h07c0").append(s).append("9");
        }
        Run back = Run.loaded(text + "h07c081").due("sheetOf(9, 6)", 900000).due("sheetOf(9, 5)", 1);
        back.due("errorsIn(9, 60)", 2).due("errorsIn(9, 63)", 0).due("rightFor(9)", 60).does("hours(60)", "hours(3)");
        back.due("sheetOf(9, 1)", 36).due("sheetOf(9, 5)", 0).due("rightFor(9)", 1);
        // fewer errors come first, with the ink 36, and more an hour later
        Run fewer = Run.loaded(text + "h07c089").due("sheetOf(9, 5)", 1).due("errorsIn(9, 6)", 1);
        fewer.due("errorsIn(9, 7)", 0).due("errorsIn(9, 8)", 2).due("rightFor(9)", 8);
    }

    /** Promise 25: "IndexOutOfBoundsException if there is no such town", where way is wrong too */
    private static void routeOfNoSuch() {
        Run run = Run.loaded("Ftt").noSuch("route(-1, 0, 0)", "route(0, -1, 0)", "route(2, 0, 1)", "route(0, 2, 1)");
        run.noSuch("route(2, 2, 0)", "route(-1, -1, 1)", "route(0, 2, 2)", "route(-1, 0, -1)");
        run.noSuch("route(" + MIN + ", 0, 0)", "route(0, " + MAX + ", 0)");
        Run.full().noSuch("route(6, 0, 0)", "route(0, 6, 1)").due("route(5, 0, 0)", 15).due("route(0, 5, 1)", 15);
    }

    /** Promise 25: "IllegalArgumentException if way is neither 0 nor 1" */
    private static void routeOutOfRange() {
        Run run = Run.loaded("Ftt").outOfRange("route(0, 1, -1)", "route(0, 1, 2)", "route(0, 0, 2)");
        run.outOfRange("route(0, 1, " + MIN + ")", "route(0, 1, " + MAX + ")");
    }

    private static void both(Run run, int a, int b, int want) {
        run.due("route(" + a + ", " + b + ", 0)", want).due("route(" + a + ", " + b + ", 1)", want);
    }

    /** Promise 25: "0 for the same town" */
    private static void routeOfTheSameTown() {
        Run run = Run.loaded("Ft");
        both(run, 0, 0, 0);
        Run six = Run.loaded("Fttttttr0101");
        for (int t = 0; t < 6; t++) {
            both(six, t, t, 0);
        }
    }

    /** Promise 25: "NONE if there is no way" */
    private static void routeWithoutAWay() {
        Run run = Run.loaded("Fttttttr0101r2301r3401");
        both(run, 0, 2, -1);
        both(run, 4, 1, -1);
        both(run, 5, 0, -1);
        both(run, 0, 5, -1);
        both(run, 2, 4, 2);
        both(run.does("road(1, 4, 20)"), 0, 2, 23);
        both(Run.loaded("Ftt"), 0, 1, -1);
    }

    /** Promise 25: the longest way there can be, told in the best and in the worst order of the roads */
    private static void routeLongest() {
        String[] lines = {LINE, "Fttttttr4520r3420r2320r1220r0120", "Fttttttr2320r0120r4520r1220r3420"};
        for (String line : lines) {
            Run run = Run.loaded(line);
            both(run, 0, 5, 100);
            both(run, 5, 0, 100);
            both(run, 1, 5, 80);
            both(run, 4, 0, 80);
        }
    }

    /** Promise 25: "the fewest hours": over more roads, and by the shortest of several between two towns */
    private static void routeShortest() {
        Run run = Run.loaded("Ftttr0220r0109r1210");
        both(run, 0, 2, 19);
        both(run, 2, 0, 19);
        both(Run.loaded("Ftttr0220r0110r1210"), 0, 2, 20);
        both(Run.loaded("Ftttr0220r0110r1211"), 0, 2, 20);
        Run several = Run.loaded("Fttr0103r0101r1002r0120");
        both(several, 0, 1, 1);
        both(several, 1, 0, 1);
        Run late = Run.loaded("Fttttttr0120r0201r2301r3401r4501r5101");
        both(late, 0, 1, 5);
        both(late, 1, 0, 5);
        both(late, 3, 1, 3);
    }

    /** Promise 25: "(the same for both ways)" */
    private static void routesInBothWays() {
        for (int seed = 1; seed <= 20; seed++) {
            Run run = Run.of("town()", "town()", "town()", "town()", "town()", "town()");
            int x = seed;
            for (int w = 0; w < 10; w++) {
                x = (x * 61 + 17) % 1009;
                int a = x % 6;
                run.does("road(" + a + ", " + (a + 1 + x / 6 % 5) % 6 + ", " + (1 + x % 20) + ")");
            }
            for (int a = 0; a < 6; a++) {
                for (int b = 0; b < 6; b++) {
                    String way = "route(" + a + ", " + b + ", ";
                    Check.same(way + "1) of " + seed, run.answer(way + "0)"), run.answer(way + "1)"));
                    Check.same(way + "0) back", run.answer(way + "0)"), run.answer("route(" + b + ", " + a + ", 0)"));
                }
            }
        }
    }

    /** Promise 26: "IndexOutOfBoundsException if there is no such town" */
    private static void roadToOfNoSuch() {
        Run run = Run.loaded("Ftt").noSuch("roadTo(-1, 0)", "roadTo(0, -1)", "roadTo(2, 0)", "roadTo(0, 2)");
        run.noSuch("roadTo(2, 2)", "roadTo(-1, -1)", "roadTo(" + MIN + ", 0)", "roadTo(0, " + MAX + ")");
        Run.full().noSuch("roadTo(6, 0)", "roadTo(0, 6)").due("roadTo(5, 0)", 4).due("roadTo(0, 5)", 0);
    }

    /** Promise 26: "NONE if there is no way, or both are the same" */
    private static void roadToNone() {
        Run run = Run.loaded("Ftttr0101").due("roadTo(0, 0)", -1).due("roadTo(1, 1)", -1).due("roadTo(2, 2)", -1);
        run.due("roadTo(0, 2)", -1).due("roadTo(2, 0)", -1).due("roadTo(2, 1)", -1).due("roadTo(0, 1)", 0);
        Run.loaded("Ftt").due("roadTo(0, 1)", -1).due("roadTo(0, 0)", -1);
    }

    /** Promise 26: "the lowest road of the town a by which b is reached in route(a, b, 0) hours" */
    private static void roadToLowest() {
        Run alike = Run.loaded("Fttr0102r1001r0101").due("roadTo(0, 1)", 1).due("roadTo(1, 0)", 1);
        alike.due("route(0, 1, 0)", 1);
        Run two = Run.loaded("Ftttr1206r0104r0210r0104").due("roadTo(0, 2)", 1).due("roadTo(2, 0)", 0);
        two.due("roadTo(0, 1)", 1).due("roadTo(1, 2)", 0);
        Run direct = Run.loaded("Ftttr0210r1206r0104").due("roadTo(0, 2)", 0).due("roadTo(2, 0)", 0);
        direct.due("roadTo(1, 0)", 2);
        Run longer = Run.loaded("Ftttr0211r1206r0104").due("roadTo(0, 2)", 2).due("roadTo(2, 0)", 1);
        longer.due("roadTo(2, 1)", 1);
        Run.loaded(LINE).due("roadTo(0, 5)", 0).due("roadTo(5, 0)", 4).due("roadTo(2, 5)", 2).due("roadTo(2, 0)", 1);
        Run.loaded("Fttt" + "r0102".repeat(9) + "r0120").due("roadTo(0, 1)", 0).due("roadTo(0, 2)", -1);
        Run last = Run.loaded("Fttt" + "r0120".repeat(9) + "r0119").due("roadTo(0, 1)", 9).due("roadTo(1, 0)", 9);
        last.due("roadTo(0, 0)", -1);
    }

    /** Promise 27: "IndexOutOfBoundsException if there is no such sheet or town" */
    private static void ifBroughtOfNoSuch() {
        Run run = Run.loaded("Ftw00000000").noSuch("ifBrought(-1, 0)", "ifBrought(1, 0)", "ifBrought(0, -1)");
        run.noSuch("ifBrought(0, 1)", "ifBrought(1, 1)", "ifBrought(" + MIN + ", 0)", "ifBrought(0, " + MAX + ")");
        Run.full().noSuch("ifBrought(12, 0)", "ifBrought(0, 6)", "ifBrought(-1, 5)", "ifBrought(11, -1)");
        Run.loaded("Ft").noSuch("ifBrought(0, 0)");
    }

    /** Promise 27: "behind as many hours as it takes from where it is": none in the same town */
    private static void ifBroughtWhereItIs() {
        Run run = Run.loaded("Fttu1w00000009w10000009h10").due("ifBrought(0, 0)", 2).due("ifBrought(1, 1)", 2);
        run.does("take(0, 1)").due("ifBrought(1, 1)", 2).does("hours(1)").due("ifBrought(1, 1)", 6);
        run.due("ifBrought(0, 0)", 6);
    }

    /** Promise 27: "NONE if there is no way", as it lies, is carried, and on a road */
    private static void ifBroughtWithoutAWay() {
        Run run = Run.loaded("Ftttr0102u0w00000000w20000000").due("ifBrought(0, 2)", -1).due("ifBrought(1, 0)", -1);
        run.due("ifBrought(1, 2)", 0).does("take(0, 0)").due("ifBrought(0, 2)", -1).does("go(0, 0)");
        run.due("ifBrought(0, 2)", -1).due("ifBrought(0, 0)", 0).due("ifBrought(0, 1)", 0);
        Run.loaded("Fttw00000009h11").due("ifBrought(0, 1)", -1).due("ifBrought(0, 0)", 6);
    }

    /** Promise 27: "from a road by way of the town to which its runner goes" */
    private static void ifBroughtFromARoad() {
        // of fade 1: 59 hours are right, 60 are not
        Run run = Run.loaded("Ftttr0119r1220u0w00000001h39k000g00").due("ifBrought(0, 1)", 0).due("ifBrought(0, 2)", 1);
        run.due("ifBrought(0, 0)", 1).does("hours(18)").due("runnerOf(0, 1)", 1).due("ifBrought(0, 1)", 0);
        run.due("ifBrought(0, 0)", 1).due("ifBrought(0, 2)", 1).does("hours(1)").due("ifBrought(0, 1)", 0);
        run.due("sheetOf(0, 1)", 41).due("ifBrought(0, 0)", 1).due("ifBrought(0, 2)", 1);
        // back over the road by which it goes, though another one is shorter from where it was
        Run back = Run.loaded("Ftttr0120r0201u0w00000001h29k000g00h09").due("runnerOf(0, 1)", 11);
        back.due("ifBrought(0, 0)", 1).due("ifBrought(0, 1)", 0).due("ifBrought(0, 2)", 1);
        Run just = Run.loaded("Ftttr0120r0201u0w00000001h28k000g00h09").due("ifBrought(0, 0)", 1);
        just.due("ifBrought(0, 2)", 1);
        Run early = Run.loaded("Ftttr0120r0201u0w00000001h19k000g00").due("ifBrought(0, 0)", 0)
                .due("ifBrought(0, 2)", 1);
        early.due("ifBrought(0, 1)", 0);
    }

    /** Promise 27: "by route()", at the hours at which what is read becomes another */
    private static void ifBroughtAtEachBound() {
        Run run = Run.loaded(LINE + "w00000001").due("ifBrought(0, 2)", 0).due("ifBrought(0, 3)", 1);
        run.due("ifBrought(0, 4)", 2).due("ifBrought(0, 5)", 6).does("road(4, 5, 19)", "hours(1)");
        run.due("ifBrought(0, 5)", 6).due("ifBrought(0, 2)", 0).due("ifBrought(0, 3)", 1);
        Run shorter = Run.loaded(LINE + "w00000001").does("road(5, 4, 18)").due("ifBrought(0, 5)", 2);
        shorter.does("road(3, 2, 19)").due("ifBrought(0, 3)", 0).due("ifBrought(0, 4)", 1);
    }

    /** Promise 28: "IndexOutOfBoundsException if there is no such message" */
    private static void bestOfNoSuch() {
        Run run = Run.loaded("Ft").noSuch("best(0)", "best(-1)").does("write(0, 0, 0)").due("best(0)", 0);
        run.noSuch("best(-1)", "best(1)", "best(" + MIN + ")", "best(" + MAX + ")");
        Run.full().noSuch("best(6)", "best(-1)", "best(11)").due("best(5)", 5).due("best(0)", 0);
    }

    /** Promise 28: "the sheet of it with the fewest errors", also if another one has more ink */
    private static void bestByErrors() {
        Run run = Run.loaded("Ftu0w00000009h07c000").due("sheetOf(1, 5)", 1).due("best(0)", 1);
        Run ink = Run.loaded("Ftu0w00000009c008h07c000").due("best(0)", 1).due("sheetOf(1, 1)", 43);
        ink.due("sheetOf(2, 1)", 99).due("sheetOf(2, 5)", 1).does("hours(1)").due("best(0)", 2);
        run.does("hours(4)").due("best(0)", 1).due("sheetOf(0, 5)", 6);
    }

    /** Promise 28: "of several the one with the most ink" */
    private static void bestByInk() {
        Run run = Run.loaded("Ftu0w00000009h01c009h01c009").due("best(0)", 2).does("hours(1)", "copy(0, 0)");
        run.due("best(0)", 3).does("hours(5)").due("best(0)", 3).does("hours(60)").due("best(0)", 3);
        Run first = Run.loaded("Ftu0w00000001c009h05").due("best(0)", 0).does("copy(0, 9)").due("best(0)", 2);
        first.does("hours(1)").due("best(0)", 0);
        // what the errors are an hour later does not count
        Run now = Run.loaded("Ftu0w00000001h53c009h06").due("sheetOf(0, 1)", 40).due("sheetOf(1, 1)", 45);
        now.due("best(0)", 1).does("hours(1)").due("sheetOf(0, 1)", 39).due("sheetOf(1, 1)", 36).due("best(0)", 0);
    }

    /** Promise 28: "of several of those the lowest" */
    private static void bestLowest() {
        Run run = Run.loaded("Ftu0w00000001c001c001").due("best(0)", 0).does("hours(50)").due("best(0)", 0);
        run.does("hours(60)").due("best(0)", 0).due("about(7)", 3);
        Run later = Run.loaded("Ftu0w00000009h01c003c003w11111111w01111110").due("best(0)", 1).due("best(1)", 3);
        later.does("copy(3, 0)", "copy(3, 0)").due("best(1)", 3).does("hours(1)").due("best(1)", 3);
        Run none = Run.loaded("Ftu0w00000009w01111119c009c019h60").due("best(0)", 0).due("best(1)", 1);
        none.due("about(7)", 4);
    }
}

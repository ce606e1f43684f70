/** The bounds of promise 29, runScript (each row of a Run checks that it changes nothing). */
final class EdgeScriptTest {
    private static final String COUNTRY = "Ftttr0105r1205u0u0u1w01111119w12222220k000";

    public static void main(String[] args) {
        oneToThreeCommands();
        atMostFiveDigitsEach();
        zerosBeforeIt();
        rangesAheadOfAnything();
        theHighestGroupFirst();
        theFirstThatFails();
        onACopyOfTheState();
        digitsWhereZeroIsWritten();
        anyOtherGroup();
        takes();
        lays();
        goes();
        copies();
        copiesCountNowhere();
        hours();
        atMostSoManyErrors();
        inkAtLeast();
        runnerInTown();
        routeAtMost();
        Check.end();
    }

    private static void fails(Run run, int... groups) {
        for (int group : groups) {
            run.due("runScript(1, " + group + ")", 0);
        }
    }

    private static void succeeds(Run run, int... groups) {
        for (int group : groups) {
            run.due("runScript(1, " + group + ")", -1);
        }
    }

    /** "n: number of commands, 1 to 3" */
    private static void oneToThreeCommands() {
        Run run = new Run().outOfRange("runScript(0, 0)", "runScript(4, 0)", "runScript(-1, 0)", "runScript(0, 50001)");
        run.outOfRange("runScript(4, 50001)", "runScript(" + Integer.MIN_VALUE + ", 0)");
        run.outOfRange("runScript(" + Integer.MAX_VALUE + ", 0)", "runScript(4, 5000150001500015000)");
        run.due("runScript(1, 50001)", -1).due("runScript(2, 5000150001)", -1).due("runScript(3, 500015000150001)", -1);
    }

    /** "script: the commands, a number of at most 5 * n digits (0 or more)": the most digits, and one more */
    private static void atMostFiveDigitsEach() {
        Run run = Run.loaded("Fttr0120");
        run.due("runScript(1, 90199)", -1).due("runScript(2, 9019990199)", -1).due("runScript(3, 901999019990199)", -1);
        run.due("runScript(1, 99999)", 0).due("runScript(2, 9999999999)", 0).due("runScript(3, 999999999999999)", 0);
        run.outOfRange("runScript(1, 100000)", "runScript(2, 10000000000)", "runScript(3, 1000000000000000)");
        run.outOfRange("runScript(1, 900000)", "runScript(1, 5000150001)", "runScript(2, 500015000150001)");
        run.outOfRange("runScript(1, 100001)", "runScript(2, 99999999999)", "runScript(3, 9999999999999999)");
        run.outOfRange("runScript(3, " + Long.MAX_VALUE + ")", "runScript(1, " + Long.MAX_VALUE + ")");
        // numbers whose lower 32 bits would be fitting
        run.outOfRange("runScript(1, 4294967296)", "runScript(1, 4295017297)");
        run.outOfRange("runScript(1, -1)", "runScript(2, -1)", "runScript(3, -1)", "runScript(1, -50001)");
        run.outOfRange("runScript(3, " + Long.MIN_VALUE + ")", "runScript(1, " + Long.MIN_VALUE + ")");
        run.due("runScript(1, 0)", 0).due("runScript(2, 0)", 0).due("runScript(3, 0)", 0);
    }

    /** "(with zeros before it, if it has fewer digits)" */
    private static void zerosBeforeIt() {
        Run run = Run.loaded("Fttr0120");
        run.due("runScript(2, 50001)", 0).due("runScript(3, 50001)", 0).due("runScript(3, 5000150001)", 0);
        run.due("runScript(2, 150001)", 0).due("runScript(2, 900050001)", 0).due("runScript(1, 5001)", 0);
        run.due("runScript(1, 9)", 0).due("runScript(1, 9019)", 0).due("runScript(3, 99999999999999)", 0);
    }

    /** "IllegalArgumentException if n is out of range, or if script is negative or has more than 5 * n digits" */
    private static void rangesAheadOfAnything() {
        new Run().outOfRange("runScript(0, -1)", "runScript(4, -1)", "runScript(0, 100000)", "runScript(1, 100000)");
        Run.full().outOfRange("runScript(0, 0)", "runScript(4, 0)", "runScript(3, -1)", "runScript(1, 100000)");
    }

    /** "the first command is the highest group of the number" */
    private static void theHighestGroupFirst() {
        Run run = Run.loaded(COUNTRY);
        // go, come there, be there
        run.due("runScript(3, 300005000580100)", -1).due("runScript(3, 300005000480100)", 2);
        run.due("runScript(3, 801003000050005)", 0).due("runScript(3, 300008010050005)", 1);
        run.due("runScript(2, 3000080000)", 1).due("runScript(2, 8000030000)", -1);
        run.due("runScript(2, 4015070299)", -1).due("runScript(2, 7029940150)", 0);
    }

    /** "Returns the index, from 0, of the first command that fails; NONE if all succeed." */
    private static void theFirstThatFails() {
        Run run = new Run().due("runScript(3, 500015000150001)", -1).due("runScript(3, 500015000150000)", 2);
        run.due("runScript(3, 500015000050001)", 1).due("runScript(3, 500015000050000)", 1);
        run.due("runScript(3, 500005000150001)", 0).due("runScript(3, 500005000050000)", 0);
        run.due("runScript(2, 5000150001)", -1).due("runScript(2, 5000150000)", 1).due("runScript(2, 5000050001)", 0);
        run.due("runScript(1, 50001)", -1).due("runScript(1, 50000)", 0);
    }

    /** "Runs a script on a copy of the state.": also behind a script that fails, and one that was run before */
    private static void onACopyOfTheState() {
        Run run = Run.loaded(COUNTRY).does("hours(1)", "save(1)");
        run.due("runScript(3, 300005000540100)", -1).due("runScript(3, 300005000540100)", -1);
        run.due("runScript(3, 200001200050060)", 1).due("runScript(2, 2000040000)", -1).due("about(4)", 2);
        run.due("runnerOf(0, 1)", 0).due("sheetOf(0, 3)", 0).due("about(5)", 1);
    }

    /** "so does any other group (also one with another digit where a 0 is written)" */
    private static void digitsWhereZeroIsWritten() {
        int[][] groupsAndUnits = {{11000, 1}, {20000, 10, 1}, {30000, 10, 1}, {40000, 1}, {50001, 1000, 100},
            {60000, 10}, {80000, 10, 1}};
        for (int[] row : groupsAndUnits) {
            Run run = Run.loaded(COUNTRY);
            succeeds(run, row[0]);
            for (int i = 1; i < row.length; i++) {
                for (int digit = 1; digit <= 9; digit++) {
                    fails(run, row[0] + digit * row[i]);
                }
            }
        }
    }

    /** "and so does any other group": those that begin with a 0 */
    private static void anyOtherGroup() {
        fails(Run.loaded(COUNTRY), 0, 1, 99, 1000, 5001, 9005, 9999, 1100, 2000);
    }

    /** "1 r s s 0: take(r, ss).": fails if it would throw, or there is no such runner or sheet */
    private static void takes() {
        Run run = Run.loaded(COUNTRY);
        succeeds(run, 11000, 12010);
        fails(run, 10000, 10010, 11010, 12000, 13000, 19000, 11020, 11120, 11990);
        Run twelve = Run.withSheets(12);
        succeeds(twelve, 10000, 10090, 10100, 10110);
        fails(twelve, 10120, 10990, 11000, 11110);
        twelve.does("take(0, 0)", "take(0, 1)");
        succeeds(twelve, 10110);
        fails(twelve.does("take(0, 2)"), 10110, 10000);
        twelve.due("runScript(2, 2000010110)", -1);
        fails(Run.loaded("Fttr0102u0u0w00000000k000g00"), 10000, 11000);
    }

    /** "2 s s 0 0: lay(ss)." */
    private static void lays() {
        Run run = Run.loaded(COUNTRY);
        succeeds(run, 20000);
        fails(run, 20100, 20200, 21000, 29900);
        run.due("runScript(2, 2000020000)", 1).does("go(0, 0)");
        fails(run, 20000);
        Run last = Run.withSheets(12).does("take(0, 11)");
        succeeds(last, 21100);
        fails(last, 21000, 21200, 20100);
    }

    /** "3 r w 0 0: go(r, w)." */
    private static void goes() {
        Run run = Run.loaded(COUNTRY);
        succeeds(run, 30000, 31000, 32000, 32100);
        fails(run, 30100, 30200, 33000, 39900, 30900, 32200);
        run.due("runScript(2, 3000030000)", 1).due("runScript(3, 300005000530100)", -1);
        Run full = Run.full();
        succeeds(full, 34900, 34400, 30500);
        fails(full, 35900, 33500, 30900);
    }

    /** "4 s s f 0: copy(ss, f); succeeds if it is copied.": fails for each reason, and f is 0 to 9 */
    private static void copies() {
        Run run = Run.loaded(COUNTRY);
        succeeds(run, 40000, 40010, 40090, 40100, 40190);
        fails(run, 40200, 41200, 49990);
        fails(Run.loaded("Fttr0102u0u1w00000000k000g00"), 40000);
        fails(Run.loaded("Ftu0w00000009h11"), 40000);
        fails(Run.loaded("Ftu0w00000000k000"), 40000);
        Run eleven = Run.withSheets(11);
        succeeds(eleven, 41000);
        eleven.due("runScript(2, 4000040000)", 1).due("runScript(2, 4109041100)", 1);
        Run twelve = Run.withSheets(12);
        fails(twelve, 40000, 41100, 41200);
        // the fade of the copy
        run.due("runScript(3, 401905001170200)", -1).due("runScript(3, 401905001070209)", -1);
        run.due("runScript(3, 401905001070210)", 2).due("runScript(3, 401005006070299)", -1);
    }

    /** "on a copy of the state": a refused copy there is not counted */
    private static void copiesCountNowhere() {
        Run run = Run.loaded("Ftw00000000").due("runScript(1, 40000)", 0).due("about(8)", 0).due("copy(0, 0)", 3);
        run.due("runScript(3, 400004000040000)", 0).due("about(8)", 1).due("about(4)", 1);
    }

    /** "5 0 0 n n: hours(nn).": 0 and more than 60 fail */
    private static void hours() {
        Run run = Run.loaded(COUNTRY);
        succeeds(run, 50001, 50009, 50010, 50059, 50060);
        fails(run, 50000, 50061, 50099);
        run.due("runScript(2, 5001170000)", -1).due("runScript(2, 5001170001)", 1).due("runScript(2, 5001070009)", -1);
        run.due("runScript(2, 5001070010)", 1).due("runScript(2, 5006070199)", -1);
    }

    /** "6 s s 0 n: succeeds if the sheet ss has at most n errors." */
    private static void atMostSoManyErrors() {
        Run run = Run.loaded(COUNTRY);
        succeeds(run, 60000, 60009, 60100);
        fails(run, 60200, 60209, 61000, 61209, 69909);
        run.does("hours(6)");
        succeeds(run, 60000);
        run.does("hours(1)");
        fails(run, 60000);
        succeeds(run, 60001, 60002, 60100);
        run.does("hours(2)");
        fails(run, 60000, 60001);
        succeeds(run, 60002);
        run.does("hours(2)");
        fails(run, 60005);
        succeeds(run, 60006, 60007, 60009);
        Run last = Run.withSheets(12);
        succeeds(last, 61100, 60900);
        fails(last, 61200, 61209);
    }

    /** "7 s s n n: succeeds if its ink is at least nn." */
    private static void inkAtLeast() {
        Run run = Run.loaded(COUNTRY);
        succeeds(run, 70000, 70099, 70199);
        fails(run, 70200, 71000, 71200, 79900);
        run.does("hours(1)");
        succeeds(run, 70089, 70090);
        fails(run, 70091, 70099);
        run.does("hours(10)");
        succeeds(run, 70000);
        fails(run, 70001);
        Run last = Run.withSheets(12);
        succeeds(last, 71199, 71100, 70999);
        fails(last, 71200);
    }

    /** "8 r t 0 0: succeeds if the runner r is in the town t." */
    private static void runnerInTown() {
        Run run = Run.loaded(COUNTRY);
        succeeds(run, 80000, 81000, 82100);
        fails(run, 80100, 80200, 82000, 83000, 83100, 80300, 89000, 80900, 84400);
        run.does("go(0, 0)");
        fails(run, 80000, 80100);
        run.does("hours(4)");
        fails(run, 80000, 80100);
        run.does("hours(1)");
        succeeds(run, 80100);
        fails(run, 80000);
        Run full = Run.full();
        succeeds(full, 80000, 84400);
        fails(full, 84500, 85500, 84600);
        Run more = Run.loaded("Ftu0u0u0u0u0");
        succeeds(more, 80000, 81000, 84000);
        fails(more, 80100, 84100, 85000);
    }

    /** "9 a b n n: succeeds if route(a, b, 0) is at most nn and not NONE." */
    private static void routeAtMost() {
        Run run = Run.loaded(COUNTRY + "t");
        succeeds(run, 90105, 90106, 90199, 90210, 92010, 90000, 93300, 93399);
        fails(run, 90100, 90104, 90209, 92009, 90399, 93099, 90300, 94400, 90499, 94099, 99999, 99900);
        Run longest = Run.loaded("Fttttttr0120r1220r2320r3420r4520");
        fails(longest, 90599, 95099, 90600, 96099, 96600);
        succeeds(longest, 90480, 95180, 95500);
        longest.does("road(4, 5, 19)");
        succeeds(longest, 90599, 95099);
        fails(longest, 90598);
    }
}

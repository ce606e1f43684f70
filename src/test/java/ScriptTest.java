/** Promises 29 and 30: runScript and simulate, which change nothing. */
final class ScriptTest {
    public static void main(String[] args) {
        ranges();
        takes();
        laysAndGoes();
        copies();
        hours();
        questions();
        wrongGroups();
        severalCommands();
        changesNothing();
        simulateRanges();
        simulateTurns();
        Check.end();
    }

    private static void run(FadingSheets x, int n, long script, int want) {
        Check.due("runScript(" + n + ", " + script + ")", want, () -> x.runScript(n, script));
    }

    private static void succeeds(FadingSheets x, long script) {
        run(x, 1, script, -1);
    }

    private static void fails(FadingSheets x, long script) {
        run(x, 1, script, 0);
    }

    private static void ranges() {
        FadingSheets x = new FadingSheets();
        Check.outOfRange("runScript(0, 0)", () -> x.runScript(0, 0));
        Check.outOfRange("runScript(4, 0)", () -> x.runScript(4, 0));
        Check.outOfRange("runScript(-1, 0)", () -> x.runScript(-1, 0));
        Check.outOfRange("runScript(1, -1)", () -> x.runScript(1, -1));
        Check.outOfRange("runScript(3, MIN)", () -> x.runScript(3, Long.MIN_VALUE));
        Check.outOfRange("runScript(3, MAX)", () -> x.runScript(3, Long.MAX_VALUE));
        long limit = 1;
        for (int n = 1; n <= 3; n++) {
            limit *= 100000;
            int commands = n;
            long tooLong = limit;
            Check.due("the longest script of " + n, 0, () -> x.runScript(commands, tooLong - 1));
            // a long has up to 19 digits
            for (long more = tooLong; more > 0; more *= 10) {
                long script = more;
                Check.outOfRange("runScript(" + n + ", " + script + ")", () -> x.runScript(commands, script));
            }
            Check.due("an empty script of " + n, 0, () -> x.runScript(commands, 0));
        }
    }

    private static FadingSheets country() {
        return Texts.loaded("Ftttr0105r1205u0u0u1w01111119w12222220k000");
    }

    private static void takes() {
        FadingSheets x = country();
        succeeds(x, 11000);
        succeeds(Texts.loaded("Ftu0w00000000c000c000c000c000c000c000c000c000c000c000c000"), 10110);
        fails(x, 11001);
        fails(x, 10000);
        fails(x, 11010);
        succeeds(x, 12010);
        fails(x, 13010);
        fails(x, 12020);
        fails(x, 19990);
    }

    private static void laysAndGoes() {
        FadingSheets x = country();
        succeeds(x, 20000);
        fails(x, 20001);
        fails(x, 20010);
        fails(x, 20100);
        fails(x, 20200);
        fails(x, 29900);
        succeeds(x, 30000);
        fails(x, 30001);
        fails(x, 30010);
        fails(x, 30100);
        succeeds(x, 32100);
        succeeds(x, 32000);
        fails(x, 32200);
        fails(x, 33000);
    }

    private static void copies() {
        FadingSheets x = country();
        succeeds(x, 40000);
        succeeds(x, 40090);
        fails(x, 40001);
        succeeds(x, 40150);
        fails(x, 40200);
        x.go(1, 0);
        fails(x, 40000);
    }

    private static void hours() {
        FadingSheets x = country();
        fails(x, 50000);
        succeeds(x, 50001);
        succeeds(x, 50060);
        fails(x, 50061);
        fails(x, 50099);
        fails(x, 50101);
        fails(x, 51001);
    }

    private static void questions() {
        FadingSheets x = country();
        x.hours(9);
        // the ink 18: two errors
        fails(x, 60000);
        fails(x, 60001);
        succeeds(x, 60002);
        succeeds(x, 60009);
        fails(x, 60012);
        fails(x, 61100);
        succeeds(x, 60100);
        fails(x, 60209);
        fails(x, 61009);
        succeeds(x, 70000);
        succeeds(x, 70018);
        fails(x, 70019);
        succeeds(x, 70199);
        fails(x, 70200);
        succeeds(x, 80000);
        fails(x, 80100);
        fails(x, 80300);
        fails(x, 83000);
        fails(x, 80001);
        fails(x, 80010);
        succeeds(x, 82100);
        x.go(0, 0);
        fails(x, 80000);
        fails(x, 80100);
        x.hours(5);
        succeeds(x, 80100);
        succeeds(x, 90105);
        fails(x, 90104);
        succeeds(x, 90210);
        fails(x, 90209);
        succeeds(x, 91100);
        fails(x, 90399);
        fails(x, 93099);
        x.town();
        fails(x, 90399);
        succeeds(x, 93300);
    }

    private static void wrongGroups() {
        FadingSheets x = country();
        fails(x, 0);
        fails(x, 1);
        fails(x, 9999);
    }

    private static void severalCommands() {
        FadingSheets x = country();
        run(x, 2, 5000150001L, -1);
        run(x, 2, 5000150000L, 1);
        run(x, 2, 50001L, 0);
        run(x, 3, 500015000150001L, -1);
        run(x, 3, 500015000150000L, 2);
        run(x, 3, 500010000050000L, 1);
        run(x, 3, 5000150001L, 0);
        // it goes, comes there, and is there
        run(x, 3, 300005000580100L, -1);
        run(x, 3, 300005000480100L, 2);
        // it goes and cannot go again
        run(x, 2, 3000030000L, 1);
        // the copy is the sheet 2
        run(x, 2, 4015070299L, -1);
        run(x, 2, 7029940150L, 0);
        // laid, it can be copied with the other one away
        run(x, 3, 310002000040000L, -1);
        run(x, 2, 3100040000L, 1);
        // what fails stops the script
        run(x, 3, 600000000060000L, 1);
    }

    private static void changesNothing() {
        FadingSheets x = country();
        x.hours(1);
        String before = Looks.all(x);
        x.runScript(3, 400005006030000L);
        x.runScript(3, 300005006040000L);
        x.runScript(2, 1101020000L);
        for (int seed = 0; seed < 50; seed++) {
            x.simulate(seed, 60);
        }
        Check.isTrue("scripts and simulations change nothing", before.equals(Looks.all(x)));
        Check.due("they are no actions", 0, x::undo);
        FadingSheets y = new FadingSheets();
        y.save(1);
        y.simulate(7, 60);
        Check.due("the slot is kept", 0, () -> y.restore(1));
        Check.due("towns", 0, () -> y.about(0));
    }

    private static void simulateRanges() {
        FadingSheets x = new FadingSheets();
        Check.outOfRange("simulate(0, 0)", () -> x.simulate(0, 0));
        Check.outOfRange("simulate(0, -1)", () -> x.simulate(0, -1));
        Check.outOfRange("simulate(0, 61)", () -> x.simulate(0, 61));
        Check.due("simulate(0, 1) of a new object", 0, () -> x.simulate(0, 1));
        Check.isTrue("any seed", x.simulate(Long.MIN_VALUE, 60) >= 0 && x.simulate(Long.MAX_VALUE, 60) >= 0);
    }

    /** The turns, done as calls on another object, lead to the same sheets. */
    private static void simulateTurns() {
        String text = "Fttttr0103r1203r0206u0u1u2w01234563w12345672w29876541";
        int copied = 0;
        for (int i = 0; i < 400; i++) {
            long seed = i * 0x9E3779B97F4A7C15L;
            int m = 1 + i % 60;
            FadingSheets x = i % 2 == 0 ? Texts.loaded(text) : new FadingSheets();
            FadingSheets y = i % 2 == 0 ? Texts.loaded(text) : new FadingSheets();
            long turn = seed;
            for (int k = 0; k < m; k++) {
                turn = turn * 6364136223846793005L + 1442695040888963407L;
                doTurn(y, (int) (turn >>> 33));
            }
            copied += y.about(4) > y.about(3) ? 1 : 0;
            int want = 10000 * y.about(4) + 100 * y.about(6) + y.about(7);
            Check.due("simulate(" + seed + ", " + m + ")", want, () -> x.simulate(seed, m));
        }
        Check.isTrue("some simulations copy", copied > 50);
    }

    private static void doTurn(FadingSheets y, int r) {
        int q = r / 16;
        try {
            switch (r % 16) {
                case 0 -> y.town();
                case 1, 2 -> y.road(q % 6, q / 8 % 6, 1 + q / 64 % 20);
                case 3 -> y.runner(q % 6);
                case 4 -> y.write(q % 6, q / 8 % 1000000, q % 10);
                case 5, 6 -> y.take(q % 5, q / 8 % 12);
                case 7 -> y.lay(q % 12);
                case 8, 9, 10 -> y.go(q % 5, q / 8 % 10);
                case 11, 12 -> y.copy(q % 12, q / 16 % 10);
                case 13 -> y.proof(q % 12, q / 16 % 12, q / 256 % 12, q % 10);
                default -> y.hours(1 + q % 20);
            }
        } catch (IndexOutOfBoundsException | IllegalArgumentException | IllegalStateException e) {
            // what would throw an exception is left out
        }
    }
}

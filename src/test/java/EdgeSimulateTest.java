import java.math.BigInteger;
import java.util.ArrayList;
import java.util.List;

/** The bounds of promise 30, simulate: seeds are sought whose turns are the ones that a row names. */
final class EdgeSimulateTest {
    private static final long FACTOR = 6364136223846793005L;
    private static final long ADDEND = 1442695040888963407L;
    private static final int ANY = -1;
    private static final int TOWN = 0;
    private static final int ROAD = 1;
    private static final int RUNNER = 3;
    private static final int WRITE = 4;
    private static final int TAKE = 5;
    private static final int LAY = 7;
    private static final int GO = 8;
    private static final int COPY = 11;
    private static final int PROOF = 13;
    private static final int HOURS = 14;
    private static final String TEN_SHEETS = "w00000000" + "c000".repeat(9);

    public static void main(String[] args) {
        oneToSixtyTurns();
        anySeed();
        longOverflow();
        theLastOfSixtyTurns();
        towns();
        roads();
        roadHours();
        runners();
        writes();
        takes();
        lays();
        goes();
        copies();
        proofs();
        hours();
        whatIsReturned();
        onACopyOfTheState();
        Check.end();
    }

    private static int[] turn(int... kindAndArguments) {
        return kindAndArguments;
    }

    /** The arguments of the turn's call, as the document says them. */
    private static int[] argumentsOf(int r) {
        int q = r / 16;
        switch (firstKind(r % 16)) {
            case TOWN: return new int[0];
            case ROAD: return new int[] {q % 6, q / 8 % 6, 1 + q / 64 % 20};
            case RUNNER: return new int[] {q % 6};
            case WRITE: return new int[] {q % 6, q / 8 % 1000000, q % 10};
            case TAKE: return new int[] {q % 5, q / 8 % 12};
            case LAY: return new int[] {q % 12};
            case GO: return new int[] {q % 5, q / 8 % 10};
            case COPY: return new int[] {q % 12, q / 16 % 10};
            case PROOF: return new int[] {q % 12, q / 16 % 12, q / 256 % 12, q % 10};
            default: return new int[] {1 + q % 20};
        }
    }

    /** The lowest of the numbers that stand for the same call. */
    private static int firstKind(int kind) {
        int[] first = {0, 1, 1, 3, 4, 5, 5, 7, 8, 8, 8, 11, 11, 13, 14, 14};
        return first[kind];
    }

    private static boolean isTurn(int r, int[] wanted) {
        if (firstKind(r % 16) != firstKind(wanted[0])) {
            return false;
        }
        int[] arguments = argumentsOf(r);
        for (int i = 1; i < wanted.length; i++) {
            if (wanted[i] != ANY && wanted[i] != arguments[i - 1]) {
                return false;
            }
        }
        return true;
    }

    /** The first turn has the very number that is wanted, the others any number that stands for the same call. */
    private static long seedOf(int[]... turns) {
        // just a big one: the greatest q has a test of its own
        int q = 123456789;
        while (q >= 0 && !isTurn(16 * q + turns[0][0], turns[0])) {
            q--;
        }
        for (long low = 0; q >= 0 && low < 1L << 33; low++) {
            long first = ((16L * q + turns[0][0]) << 33) + low;
            long x = first;
            int done = 1;
            while (done < turns.length) {
                x = x * FACTOR + ADDEND;
                if (!isTurn((int) (x >>> 33), turns[done])) {
                    break;
                }
                done++;
            }
            if (done == turns.length) {
                return (first - ADDEND) * inverse();
            }
        }
        throw new AssertionError("no such seed");
    }

    /** What undoes the multiplication by FACTOR. */
    private static long inverse() {
        long inverse = FACTOR;
        for (int i = 0; i < 6; i++) {
            inverse *= 2 - FACTOR * inverse;
        }
        return inverse;
    }

    /** Simulates first one, then two of the turns and so on; each time the answer must be as wanted. */
    private static void row(String text, int[] wanted, int[]... turns) {
        long seed = seedOf(turns);
        Run run = text.isEmpty() ? new Run() : Run.loaded(text);
        for (int m = 1; m <= turns.length; m++) {
            run.due("simulate(" + seed + ", " + m + ")", wanted[m - 1]);
        }
    }

    private static int[] wants(int... wanted) {
        return wanted;
    }

    /** "IllegalArgumentException if m is out of range"; "m: number of turns, 1 to 60" */
    private static void oneToSixtyTurns() {
        Run run = new Run().outOfRange("simulate(0, 0)", "simulate(0, 61)", "simulate(0, -1)");
        run.outOfRange("simulate(0, " + Integer.MIN_VALUE + ")", "simulate(0, " + Integer.MAX_VALUE + ")");
        run.outOfRange("simulate(" + Long.MIN_VALUE + ", 0)", "simulate(" + Long.MAX_VALUE + ", 61)");
        Run full = Run.full().outOfRange("simulate(0, 0)", "simulate(0, 61)");
        Check.isTrue("one turn", Integer.parseInt(full.answer("simulate(0, 1)")) / 10000 == 12);
        Check.isTrue("sixty turns", Integer.parseInt(full.answer("simulate(0, 60)")) / 10000 == 12);
    }

    /** The calls of the turns, told with numbers that have no end, of which the last 64 bits are kept. */
    private static List<String> callsOf(long seed, int m) {
        BigInteger all = BigInteger.ONE.shiftLeft(64);
        BigInteger x = BigInteger.valueOf(seed).mod(all);
        List<String> calls = new ArrayList<>();
        String[] names = {"town", "road", "road", "runner", "write", "take", "take", "lay", "go", "go", "go", "copy",
            "copy", "proof", "hours", "hours"};
        for (int i = 0; i < m; i++) {
            x = x.multiply(BigInteger.valueOf(FACTOR)).add(BigInteger.valueOf(ADDEND)).mod(all);
            int r = x.shiftRight(33).intValueExact();
            StringBuilder call = new StringBuilder(names[r % 16]).append('(');
            String comma = "";
            for (int argument : argumentsOf(r)) {
                call.append(comma).append(argument);
                comma = ", ";
            }
            calls.add(call.append(')').toString());
        }
        return calls;
    }

    /** "What would throw an exception is left out.": so the calls, whatever they answer, lead to the same. */
    private static int wantedBy(String text, long seed, int m) {
        Run run = text.isEmpty() ? new Run() : Run.loaded(text);
        for (String call : callsOf(seed, m)) {
            run.answer(call);
        }
        int sheets = Integer.parseInt(run.answer("about(4)"));
        int errors = Integer.parseInt(run.answer("about(6)"));
        return 10000 * sheets + 100 * errors + Integer.parseInt(run.answer("about(7)"));
    }

    /** "seed: any long" */
    private static void anySeed() {
        long[] seeds = {0, 1, -1, 2, Long.MAX_VALUE, Long.MIN_VALUE, Long.MAX_VALUE - 1, Long.MIN_VALUE + 1,
            1L << 32, 1L << 33, -(1L << 33), Integer.MAX_VALUE, Integer.MIN_VALUE, 0xFFFFFFFFL};
        String text = "Fttttr0103r1203r0206u0u1u2w01234563w12345672w29876541";
        for (long seed : seeds) {
            for (int m : new int[] {1, 2, 30, 59, 60}) {
                Run.loaded(text).due("simulate(" + seed + ", " + m + ")", wantedBy(text, seed, m));
                new Run().due("simulate(" + seed + ", " + m + ")", wantedBy("", seed, m));
            }
        }
    }

    /** "x * 6364136223846793005L + 1442695040888963407L (with long overflow), and r = (int) (x >>> 33)" */
    private static void longOverflow() {
        // the first turn's number is then the greatest and the least there can be
        long most = (((1L << 31) - 1 << 33) - ADDEND) * inverse();
        long least = -ADDEND * inverse();
        Check.same("the first turn of the greatest", "[hours(8)]", callsOf(most, 1).toString());
        Check.same("the first turn of the least", "[town()]", callsOf(least, 1).toString());
        Run.loaded("Ftw00000009h03").due("simulate(" + most + ", 1)", 10601);
        Run.loaded("Ftw00000009h02").due("simulate(" + most + ", 1)", 10200);
        Run.loaded("Ftw00000009h03").due("simulate(" + least + ", 1)", 10000);
        String text = "Fttttttr0103r1203r2306r3401r4502r5003u0u1u2u3u4w01234569w12345678w29876547";
        for (int i = 1; i <= 60; i++) {
            long seed = i * 0x9E3779B97F4A7C15L;
            Run.loaded(text).due("simulate(" + seed + ", 60)", wantedBy(text, seed, 60));
        }
    }

    /** "Simulates m turns": 60 of them, the last one too, and not one more */
    private static void theLastOfSixtyTurns() {
        String text = "Fttr0101u0u1w00000009w11111118";
        int unlike = 0;
        for (long seed = 1; seed <= 1000 && unlike < 10; seed++) {
            int of59 = wantedBy(text, seed, 59);
            int of60 = wantedBy(text, seed, 60);
            if (of59 != of60) {
                unlike++;
                Run.loaded(text).due("simulate(" + seed + ", 60)", of60).due("simulate(" + seed + ", 59)", of59);
            }
        }
        Check.isTrue("seeds whose last turn tells", unlike == 10);
    }

    /** "0: town()." */
    private static void towns() {
        row("", wants(0, 10000), turn(TOWN), turn(WRITE, 0, ANY, 0));
        row("", wants(0, 0), turn(TOWN), turn(WRITE, 1, ANY, ANY));
        row("Fttttt", wants(0, 10000), turn(TOWN), turn(WRITE, 5, ANY, ANY));
        row("Fttttt", wants(0), turn(WRITE, 5, ANY, ANY));
        row("Ftttttt", wants(0, 10000), turn(TOWN), turn(WRITE, 5, ANY, ANY));
    }

    /** "1 and 2: road(q % 6, q / 8 % 6, 1 + q / 64 % 20).": made, or left out */
    private static void roads() {
        String text = "Fttu0w00000000";
        row(text, wants(10000, 20000), turn(GO, 0, 0), turn(COPY, 0, ANY));
        for (int kind = 1; kind <= 2; kind++) {
            row(text, wants(10000, 10000, 10000), turn(kind, 0, 1, 20), turn(GO, 0, 0), turn(COPY, 0, ANY));
            row(text, wants(10000, 10000, 10000), turn(kind, 1, 0, 1), turn(GO, 0, 0), turn(COPY, 0, ANY));
            row(text, wants(10000, 10000, 20000), turn(kind, 0, 0, 5), turn(GO, 0, 0), turn(COPY, 0, ANY));
            row(text, wants(10000, 10000, 20000), turn(kind, 0, 2, 5), turn(GO, 0, 0), turn(COPY, 0, ANY));
            row(text, wants(10000, 10000, 20000), turn(kind, 5, 0, 5), turn(GO, 0, 0), turn(COPY, 0, ANY));
            row("Fttttttu5w50000000", wants(10000, 10000, 10000), turn(kind, 4, 5, 5), turn(GO, 0, 0),
                    turn(COPY, 0, ANY));
        }
        row("Fttt" + "r1203".repeat(9) + "u0w00000000", wants(10000, 10000, 10000), turn(ROAD, 0, 1, ANY),
                turn(GO, 0, 9), turn(COPY, 0, ANY));
    }

    /** "1 + q / 64 % 20": 1 to 20 hours, at which the sheet comes to another runner */
    private static void roadHours() {
        String text = "Fttu0u1w00000000k000";
        for (int hours : new int[] {1, 2, 20}) {
            row(text, wants(10000, 10000, 10000, 20000), turn(2, 0, 1, hours), turn(GO, 0, 0), turn(HOURS, hours),
                    turn(COPY, 0, ANY));
            if (hours > 1) {
                row(text, wants(10000, 10000, 10000, 10000), turn(ROAD, 1, 0, hours), turn(GO, 0, 0),
                        turn(HOURS, hours - 1), turn(COPY, 0, ANY));
            }
        }
    }

    /** "3: runner(q % 6)." */
    private static void runners() {
        row("Ftw00000000", wants(10000), turn(COPY, 0, ANY));
        row("Ftw00000000", wants(10000, 20000), turn(RUNNER, 0), turn(COPY, 0, ANY));
        row("Fttw00000000", wants(10000, 10000), turn(RUNNER, 1), turn(COPY, 0, ANY));
        row("Ftw00000000", wants(10000, 10000), turn(RUNNER, 5), turn(COPY, 0, ANY));
        row("Fttttttw50000000", wants(10000, 20000), turn(RUNNER, 5), turn(COPY, 0, ANY));
        row("Fttu1u1u1u1w00000000", wants(10000, 20000), turn(RUNNER, 0), turn(COPY, 0, ANY));
        row("Fttu1u1u1u1u1w00000000", wants(10000, 10000), turn(RUNNER, 0), turn(COPY, 0, ANY));
    }

    /** "4: write(q % 6, q / 8 % 1000000, q % 10)." */
    private static void writes() {
        row("Ftttt", wants(10000, 10601), turn(WRITE, 3, 999999, 9), turn(HOURS, 11));
        row("Ftttt", wants(10000, 10100), turn(WRITE, 3, ANY, 9), turn(HOURS, 7));
        row("Ft", wants(10000, 10000), turn(WRITE, 0, ANY, 0), turn(HOURS, 20));
        row("Ftttttt", wants(10000), turn(WRITE, 5, ANY, 1));
        row("Ft", wants(0), turn(WRITE, 1, ANY, ANY));
        // q / 8 is 1000000, which is too much by itself
        Run.loaded("Fttt").due("simulate(" + (((16L * 8000000 + WRITE << 33) - ADDEND) * inverse()) + ", 1)", 10000);
        row("Ft" + "w00000000".repeat(5), wants(60000), turn(WRITE, 0, ANY, ANY));
        row("Ft" + "w00000000".repeat(6), wants(60000), turn(WRITE, 0, ANY, ANY));
        row("Ftu0" + TEN_SHEETS + "c000", wants(120000), turn(WRITE, 0, ANY, ANY));
        row("Ftu0" + TEN_SHEETS + "c000c000", wants(120000), turn(WRITE, 0, ANY, ANY));
    }

    /** "5 and 6: take(q % 5, q / 8 % 12)." */
    private static void takes() {
        row("Ftu0w00000000", wants(20000), turn(COPY, 0, ANY));
        for (int kind = 5; kind <= 6; kind++) {
            row("Ftu0w00000000", wants(10000, 10000), turn(kind, 0, 0), turn(COPY, 0, ANY));
            row("Ftu0w00000000", wants(10000, 20000), turn(kind, 1, 0), turn(COPY, 0, ANY));
            row("Ftu0w00000000", wants(10000, 20000), turn(kind, 0, 1), turn(COPY, 0, ANY));
            row("Fttu1u1u1u1u0" + TEN_SHEETS, wants(100000, 100000), turn(kind, 4, 9), turn(COPY, 9, ANY));
            row("Ftu0w00000000c000c000c000k000k001k002", wants(40000, 50000), turn(kind, 0, 3), turn(COPY, 3, ANY));
        }
        row("Ftu0u0w00000000k000", wants(10000, 10000, 20000), turn(TAKE, 1, 0), turn(LAY, 0), turn(COPY, 0, ANY));
    }

    /** "7: lay(q % 12)." */
    private static void lays() {
        row("Ftu0w00000000k000", wants(10000, 20000), turn(LAY, 0), turn(COPY, 0, ANY));
        row("Ftu0w00000000k000", wants(10000, 10000), turn(LAY, 1), turn(COPY, 0, ANY));
        row("Ftu0" + TEN_SHEETS + "c000k010", wants(110000, 120000), turn(LAY, 10), turn(COPY, 10, ANY));
        row("Ftu0w00000000", wants(10000, 20000), turn(LAY, 0), turn(COPY, 0, ANY));
    }

    /** "8 to 10: go(q % 5, q / 8 % 10)." */
    private static void goes() {
        for (int kind = 8; kind <= 10; kind++) {
            row("Fttr0120u0w00000000", wants(10000, 10000), turn(kind, 0, 0), turn(COPY, 0, ANY));
            row("Fttr0120u0w00000000", wants(10000, 20000), turn(kind, 1, 0), turn(COPY, 0, ANY));
            row("Fttr0120u0w00000000", wants(10000, 20000), turn(kind, 0, 1), turn(COPY, 0, ANY));
            row("Fttt" + "r1220".repeat(9) + "r0120u1u1u1u1u0w00000000", wants(10000, 10000), turn(kind, 4, 9),
                    turn(COPY, 0, ANY));
        }
        row("Ftttr1220u0w00000000", wants(10000, 20000), turn(GO, 0, 0), turn(COPY, 0, ANY));
        row("Fttr0101u0w00000000", wants(10000, 10000, 10000, 10000), turn(GO, 0, 0), turn(GO, 0, 0), turn(HOURS, 1),
                turn(COPY, 0, ANY));
        row("Fttr0101u0w00000000", wants(10000, 10000, 10000, 10000, 20000), turn(GO, 0, 0), turn(HOURS, ANY),
                turn(GO, 0, 0), turn(HOURS, ANY), turn(COPY, 0, ANY));
    }

    /** "11 and 12: copy(q % 12, q / 16 % 10)." */
    private static void copies() {
        for (int kind = 11; kind <= 12; kind++) {
            row("Ftu0w00000000", wants(20000, 20601), turn(kind, 0, 9), turn(HOURS, 11));
            row("Ftu0w00000000", wants(20000, 20000), turn(kind, 0, 0), turn(HOURS, 20));
            row("Ftu0w00000009h10", wants(20400), turn(kind, 0, 5));
            row("Ftu0w00000009h11", wants(10601), turn(kind, 0, 5));
            row("Ftu0w00000000", wants(10000), turn(kind, 1, ANY));
            row("Ftu0" + TEN_SHEETS + "c000", wants(120000), turn(kind, 10, ANY));
            row("Ftu0" + TEN_SHEETS + "c000", wants(110000), turn(kind, 11, ANY));
            row("Ftu0" + TEN_SHEETS + "c000c000", wants(120000), turn(kind, 11, ANY));
        }
    }

    /** "13: proof(q % 12, q / 16 % 12, q / 256 % 12, q % 10)." */
    private static void proofs() {
        String text = "Ftu0w00000000c000c000";
        for (String three : new String[] {"012", "021", "102", "120", "201", "210"}) {
            row(text, wants(40000), turn(PROOF, three.charAt(0) - '0', three.charAt(1) - '0', three.charAt(2) - '0',
                    ANY));
        }
        row(text, wants(40000, 40601), turn(PROOF, 1, 2, 0, 9), turn(HOURS, 11));
        row(text, wants(40000, 40000), turn(PROOF, 0, 1, 2, 0), turn(HOURS, 20));
        row(text, wants(30000), turn(PROOF, 0, 0, 1, ANY));
        row(text, wants(30000), turn(PROOF, 0, 1, 1, ANY));
        row(text, wants(30000), turn(PROOF, 1, 0, 1, ANY));
        row(text, wants(30000), turn(PROOF, 3, 0, 1, ANY));
        row(text, wants(30000), turn(PROOF, 0, 3, 1, ANY));
        row(text, wants(30000), turn(PROOF, 0, 1, 3, ANY));
        row(text + "w00000000", wants(40000), turn(PROOF, 0, 1, 3, ANY));
        row(text + "k000k001k002", wants(40000), turn(PROOF, 2, 1, 0, ANY));
        row("Ftw00000000", wants(10000), turn(PROOF, 0, 0, 0, ANY));
        row("Ftu0" + TEN_SHEETS + "c000", wants(120000), turn(PROOF, 10, 9, 8, ANY));
        row("Ftu0" + TEN_SHEETS + "c000c000", wants(120000), turn(PROOF, 11, 10, 9, ANY));
        row("Ftu0w00000009c000c000h09", wants(40200), turn(PROOF, 0, 1, 2, ANY));
        row("Ftu0w00000009c009c000h09", wants(40600), turn(PROOF, 0, 1, 2, ANY));
        row("Ftu0w00000009c000c000h11", wants(30601), turn(PROOF, 0, 1, 2, ANY));
    }

    /** "Otherwise: hours(1 + q % 20)." */
    private static void hours() {
        for (int kind = 14; kind <= 15; kind++) {
            row("Ftw00000001h59", wants(10100), turn(kind, 1));
            row("Ftw00000009", wants(10200), turn(kind, 10));
            row("Ftw00000009", wants(10601), turn(kind, 11));
            row("Ftw00000005", wants(10200), turn(kind, 19));
            row("Ftw00000005", wants(10601), turn(kind, 20));
        }
    }

    /** "Returns 10000 * (the sheets) + 100 * (the errors) + (the sheets that cannot be read)", least and most */
    private static void whatIsReturned() {
        row("", wants(0), turn(HOURS, 1));
        row("Ftu0w00000009" + "c009".repeat(11), wants(127212), turn(HOURS, 11));
        row("Ftu0w00000009" + "c009".repeat(11), wants(122400), turn(HOURS, 10));
        row("Ftu0w00000009c000", wants(20601, 20601), turn(HOURS, 11), turn(HOURS, 20));
    }

    /** "on a copy of the state": the next simulation begins with the state as it is */
    private static void onACopyOfTheState() {
        long seed = seedOf(turn(HOURS, 11), turn(RUNNER, 0), turn(COPY, 0, ANY));
        Run run = Run.loaded("Ftw00000009").does("hours(1)", "save(0)").due("simulate(" + seed + ", 1)", 10601);
        run.due("simulate(" + seed + ", 3)", 10601).due("sheetOf(0, 1)", 90).due("about(2)", 0).due("about(8)", 0);
        run.due("simulate(" + seed + ", 1)", 10601).due("undo()", 0).due("sheetOf(0, 1)", 99);
        run.due("restore(0)", 1).due("sheetOf(0, 1)", 90);
    }
}

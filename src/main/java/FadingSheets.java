/** Fading messages that are copied by runners before their ink is gone. */
public final class FadingSheets {
    /** There is no such result. */
    public static final int NONE = -1;

    private static final int MOST_TOWNS = 6;
    private static final int MOST_ROADS = 10;
    private static final int MOST_RUNNERS = 5;
    private static final int MOST_MESSAGES = 6;
    private static final int MOST_SHEETS = 12;
    private static final int MOST_CARRIED = 3;
    private static final int MOST_ROAD_HOURS = 20;
    private static final int MOST_HOURS = 60;
    private static final int MOST_HOURS_AHEAD = 200;
    private static final int MOST_FADE = 9;
    private static final int MOST_DIGITS = 999999;
    private static final int MOST_SIGNS = 120;
    private static final int MOST_CODE = 255;
    private static final int MOST_REMEMBERED = 14;
    private static final int MOST_COMMANDS = 3;
    private static final int MOST_TURNS = 60;
    private static final int SLOTS = 2;

    private static final int PLACES = 6;
    private static final int FULL_INK = 99;
    private static final int CLEAR_INK = 40;
    private static final int PALE_INK = 20;

    /** What an action answers in place of a number if it cannot be done; it has changed nothing then. */
    private static final int NO_SUCH = -2;
    private static final int OUT_OF_RANGE = -3;
    private static final int NOT_NOW = -4;

    private final Country now;
    private final Country trial;
    private final Past past;
    private final Planner planner;
    private final CommandText text;
    private final Country[] slots;
    private final boolean[] saved;

    /** Creates a country without towns. */
    public FadingSheets() {
        now = new Country();
        trial = new Country();
        past = new Past();
        planner = new Planner();
        text = new CommandText();
        slots = new Country[SLOTS];
        for (int i = 0; i < SLOTS; i++) {
            slots[i] = new Country();
        }
        saved = new boolean[SLOTS];
    }

    // ---- text

    /** Appends a character to the text buffer. */
    public int append(int c) throws IllegalArgumentException, IllegalStateException {
        requireRange(c, 0, MOST_CODE);
        if (text.isFull()) {
            throw new IllegalStateException("the text is full");
        }
        return text.add((char) c);
    }

    /** Empties the text buffer. */
    public int clearText() {
        return text.empty();
    }

    /** Checks the text. */
    public int errorPosition() {
        return text.firstError();
    }

    /** Makes everything as in a new object, and then does the commands of the text. */
    public int load() throws IllegalStateException {
        if (text.firstError() != NONE) {
            throw new IllegalStateException("the text is not a country");
        }
        past.forget();
        for (int i = 0; i < SLOTS; i++) {
            saved[i] = false;
        }
        now.clear();
        return text.giveTo(now);
    }

    // ---- what there is

    /** Returns a number of the country. */
    public int about(int what) throws IllegalArgumentException {
        switch (what) {
            case 0: return now.townCount;
            case 1: return now.roadCount;
            case 2: return now.runnerCount;
            case 3: return now.messageCount;
            case 4: return now.sheetCount;
            case 5: return now.time;
            case 6: return now.allErrors();
            case 7: return now.unreadable();
            case 8: return now.refused;
            case 9: return now.runnersInTowns();
            default: throw new IllegalArgumentException("what is not 0 to 9");
        }
    }

    /** Returns a number of a road. */
    public int roadOf(int w, int what) throws IndexOutOfBoundsException, IllegalArgumentException {
        requireThere(now.hasRoad(w));
        Road road = now.roads[w];
        switch (what) {
            case 0: return road.from;
            case 1: return road.to;
            case 2: return road.hours;
            default: throw new IllegalArgumentException("what is not 0 to 2");
        }
    }

    /** Returns a number of a runner. */
    public int runnerOf(int r, int what) throws IndexOutOfBoundsException, IllegalArgumentException {
        requireThere(now.hasRunner(r));
        Runner runner = now.runners[r];
        switch (what) {
            case 0: return runner.town;
            case 1: return runner.left;
            case 2: return now.carriedBy(r);
            case 3: return runner.walked;
            default: throw new IllegalArgumentException("what is not 0 to 3");
        }
    }

    /** Returns a number of a sheet. */
    public int sheetOf(int s, int what) throws IndexOutOfBoundsException, IllegalArgumentException {
        requireThere(now.hasSheet(s));
        Sheet sheet = now.sheets[s];
        switch (what) {
            case 0: return sheet.message;
            case 1: return sheet.ink;
            case 2: return sheet.fade;
            case 3: return sheet.carrier;
            case 4: return now.placeOf(s);
            case 5: return now.errorsAfter(s, 0);
            case 6: return sheet.digits;
            case 7: return now.readOf(s);
            default: throw new IllegalArgumentException("what is not 0 to 7");
        }
    }

    /** Returns the digits of a message. */
    public int message(int m) throws IndexOutOfBoundsException {
        requireThere(now.hasMessage(m));
        return now.messages[m];
    }

    // ---- actions

    /** Adds a town. */
    public int town() throws IllegalStateException {
        past.prepare(now);
        return settled(now.addTown());
    }

    /** Adds a road. */
    public int road(int a, int b, int hours)
            throws IndexOutOfBoundsException, IllegalArgumentException, IllegalStateException {
        past.prepare(now);
        return settled(now.addRoad(a, b, hours));
    }

    /** Adds a runner. */
    public int runner(int t) throws IndexOutOfBoundsException, IllegalStateException {
        past.prepare(now);
        return settled(now.addRunner(t));
    }

    /** Writes a message on a new sheet. */
    public int write(int t, int digits, int fade)
            throws IndexOutOfBoundsException, IllegalArgumentException, IllegalStateException {
        past.prepare(now);
        return settled(now.addMessage(t, digits, fade));
    }

    /** A runner takes a sheet. */
    public int take(int r, int s) throws IndexOutOfBoundsException, IllegalStateException {
        past.prepare(now);
        return settled(now.handOver(r, s));
    }

    /** A sheet is laid down in the town where it is. */
    public int lay(int s) throws IndexOutOfBoundsException, IllegalStateException {
        past.prepare(now);
        return settled(now.layDown(s));
    }

    /** A runner goes along a road. */
    public int go(int r, int w) throws IndexOutOfBoundsException, IllegalStateException {
        past.prepare(now);
        return settled(now.send(r, w));
    }

    /** Copies a sheet, if it can be copied. */
    public int copy(int s, int fade) throws IndexOutOfBoundsException, IllegalArgumentException {
        past.prepare(now);
        return counted(settled(now.addCopy(s, fade)));
    }

    /** Makes a proof of three sheets, if it can be made. */
    public int proof(int a, int b, int c, int fade) throws IndexOutOfBoundsException, IllegalArgumentException {
        past.prepare(now);
        return counted(settled(now.addProof(a, b, c, fade)));
    }

    /** Lets hours go by. */
    public int hours(int n) throws IllegalArgumentException {
        past.prepare(now);
        return settled(now.passHours(n));
    }

    /** Takes back the last action that is remembered. */
    public int undo() throws IllegalStateException {
        if (past.count == 0) {
            throw new IllegalStateException("nothing is remembered");
        }
        return past.takeBack(now);
    }

    // ---- what would be

    /** Tells why a sheet cannot be copied. */
    public int why(int s) throws IndexOutOfBoundsException {
        requireThere(now.hasSheet(s));
        return now.copyHindrance(s);
    }

    /** Tells the errors of a sheet later. */
    public int errorsIn(int s, int n) throws IndexOutOfBoundsException, IllegalArgumentException {
        requireThere(now.hasSheet(s));
        requireRange(n, 0, MOST_HOURS_AHEAD);
        return now.errorsAfter(s, n);
    }

    /** Tells how long a sheet stays as right as it is. */
    public int rightFor(int s) throws IndexOutOfBoundsException {
        requireThere(now.hasSheet(s));
        int present = now.errorsAfter(s, 0);
        for (int n = 1; n <= MOST_HOURS_AHEAD; n++) {
            if (now.errorsAfter(s, n) > present) {
                return n;
            }
        }
        return NONE;
    }

    /** Tells the fewest hours by roads from one town to another one. */
    public int route(int a, int b, int way) throws IndexOutOfBoundsException, IllegalArgumentException {
        requireThere(now.hasTown(a) && now.hasTown(b));
        requireRange(way, 0, 1);
        return way == 0 ? planner.nearestFirst(now, a, b) : planner.roundByRound(now, a, b);
    }

    /** Finds the road by which to go from one town to another one. */
    public int roadTo(int a, int b) throws IndexOutOfBoundsException {
        requireThere(now.hasTown(a) && now.hasTown(b));
        return planner.lowestRoad(now, a, b);
    }

    /** Tells the errors of a sheet where it is brought. */
    public int ifBrought(int s, int t) throws IndexOutOfBoundsException {
        requireThere(now.hasSheet(s) && now.hasTown(t));
        int start = now.sheets[s].town;
        int left = 0;
        int carrier = now.sheets[s].carrier;
        if (carrier != NONE) {
            start = now.runners[carrier].town;
            left = now.runners[carrier].left;
        }
        int way = planner.nearestFirst(now, start, t);
        return way == NONE ? NONE : now.errorsAfter(s, left + way);
    }

    /** Finds the best sheet of a message. */
    public int best(int m) throws IndexOutOfBoundsException {
        requireThere(now.hasMessage(m));
        return now.bestOf(m);
    }

    // ---- scripts, simulations

    /** Runs a script on a copy of the state. */
    public int runScript(int n, long script) throws IllegalArgumentException {
        requireRange(n, 1, MOST_COMMANDS);
        if (script < 0 || Script.without(script, n) != 0) {
            throw new IllegalArgumentException("the script is negative or too long");
        }
        trial.copyFrom(now);
        for (int i = 0; i < n; i++) {
            if (!Script.succeeds(Script.lastGroup(Script.without(script, n - 1 - i)), trial, planner)) {
                return i;
            }
        }
        return NONE;
    }

    /** Simulates turns on a copy of the state. */
    public int simulate(long seed, int m) throws IllegalArgumentException {
        requireRange(m, 1, MOST_TURNS);
        trial.copyFrom(now);
        long x = seed;
        for (int i = 0; i < m; i++) {
            x = x * 6364136223846793005L + 1442695040888963407L;
            Script.turn((int) (x >>> 33), trial);
        }
        return 10000 * trial.sheetCount + 100 * trial.allErrors() + trial.unreadable();
    }

    // ---- save slots

    /** Stores the present state in a save slot. */
    public int save(int slot) throws IndexOutOfBoundsException {
        requireThere(slot >= 0 && slot < SLOTS);
        slots[slot].copyFrom(now);
        saved[slot] = true;
        return now.time;
    }

    /** Replaces the state by the one in a save slot, and forgets all remembered states. */
    public int restore(int slot) throws IndexOutOfBoundsException, IllegalStateException {
        requireThere(slot >= 0 && slot < SLOTS);
        if (!saved[slot]) {
            throw new IllegalStateException("nothing is saved in this slot");
        }
        now.copyFrom(slots[slot]);
        past.forget();
        return now.time;
    }

    // ---- helpers of the face

    private static void requireThere(boolean there) {
        if (!there) {
            throw new IndexOutOfBoundsException("there is no such thing");
        }
    }

    private static void requireRange(int value, int least, int most) {
        if (!inRange(value, least, most)) {
            throw new IllegalArgumentException("an argument is out of its range");
        }
    }

    private static boolean inRange(int value, int least, int most) {
        return value >= least && value <= most;
    }

    /** Throws what a refused action's answer stands for; otherwise the action is remembered. */
    private int settled(int answer) {
        if (answer == NO_SUCH) {
            throw new IndexOutOfBoundsException("there is no such thing");
        }
        if (answer == OUT_OF_RANGE) {
            throw new IllegalArgumentException("an argument is out of its range");
        }
        if (answer == NOT_NOW) {
            throw new IllegalStateException("this cannot be done now");
        }
        past.keepPrepared();
        return answer;
    }

    /** Only the copies and proofs that a caller asks for count as refused, not those of texts and scripts. */
    private int counted(int reason) {
        if (reason != 0) {
            now.refused++;
        }
        return reason;
    }

    /** A road, which can be gone both ways. */
    private static final class Road {
        int from;
        int to;
        int hours;

        void copyFrom(Road other) {
            from = other.from;
            to = other.to;
            hours = other.hours;
        }

        boolean touches(int town) {
            return from == town || to == town;
        }

        int otherEnd(int town) {
            return from == town ? to : from;
        }
    }

    /** A runner, who is in a town if no hours are left, and otherwise on the way to it. */
    private static final class Runner {
        int town;
        int left;
        int walked;

        void copyFrom(Runner other) {
            town = other.town;
            left = other.left;
            walked = other.walked;
        }

        boolean isIn(int place) {
            return left == 0 && town == place;
        }

        /** Tells whether the runner comes to a town in this hour. */
        boolean walkedIn() {
            if (left == 0) {
                return false;
            }
            left--;
            walked++;
            return left == 0;
        }
    }

    /** A sheet; its own town counts only while nobody carries it. */
    private static final class Sheet {
        int message;
        int digits;
        int ink;
        int fade;
        int carrier;
        int town;

        void copyFrom(Sheet other) {
            message = other.message;
            digits = other.digits;
            ink = other.ink;
            fade = other.fade;
            carrier = other.carrier;
            town = other.town;
        }

        boolean isReadable() {
            return ink > 0;
        }

        int inkAfter(int hours) {
            return Math.max(0, ink - fade * hours);
        }

        /** What is read of it with that ink; NONE if it cannot be read. */
        int readWith(int k) {
            if (k <= 0) {
                return NONE;
            }
            if (k >= CLEAR_INK) {
                return digits;
            }
            int read = Digits.raised(digits, k % PLACES);
            return k >= PALE_INK ? read : Digits.raised(read, (k + 2) % PLACES);
        }
    }

    /** Six digits in one number, the highest one at the place 0. */
    private static final class Digits {
        static int digitAt(int number, int place) {
            int rest = number;
            for (int i = place + 1; i < PLACES; i++) {
                rest /= 10;
            }
            return rest % 10;
        }

        /** The number with the digit at the place as 1 more, and 9 as 0. */
        static int raised(int number, int place) {
            int unit = 1;
            int rest = number;
            for (int i = place + 1; i < PLACES; i++) {
                unit *= 10;
                rest /= 10;
            }
            return rest % 10 == 9 ? number - 9 * unit : number + unit;
        }

        static int unlikePlaces(int one, int other) {
            int unlike = 0;
            for (int place = 0; place < PLACES; place++) {
                if (digitAt(one, place) != digitAt(other, place)) {
                    unlike++;
                }
            }
            return unlike;
        }

        /** At each place the digit that two of the three have, or else that of the first one. */
        static int majority(int first, int second, int third) {
            int number = 0;
            for (int place = 0; place < PLACES; place++) {
                int digit = digitAt(first, place);
                if (digitAt(second, place) == digitAt(third, place)) {
                    digit = digitAt(second, place);
                }
                number = 10 * number + digit;
            }
            return number;
        }
    }

    /** The state: all that actions change and undo brings back. */
    private static final class Country {
        int townCount;
        int roadCount;
        int runnerCount;
        int messageCount;
        int sheetCount;
        int time;
        int refused;
        final Road[] roads;
        final Runner[] runners;
        final int[] messages;
        final Sheet[] sheets;

        Country() {
            roads = new Road[MOST_ROADS];
            for (int i = 0; i < MOST_ROADS; i++) {
                roads[i] = new Road();
            }
            runners = new Runner[MOST_RUNNERS];
            for (int i = 0; i < MOST_RUNNERS; i++) {
                runners[i] = new Runner();
            }
            messages = new int[MOST_MESSAGES];
            sheets = new Sheet[MOST_SHEETS];
            for (int i = 0; i < MOST_SHEETS; i++) {
                sheets[i] = new Sheet();
            }
        }

        void clear() {
            townCount = 0;
            roadCount = 0;
            runnerCount = 0;
            messageCount = 0;
            sheetCount = 0;
            time = 0;
            refused = 0;
        }

        void copyFrom(Country other) {
            townCount = other.townCount;
            roadCount = other.roadCount;
            runnerCount = other.runnerCount;
            messageCount = other.messageCount;
            sheetCount = other.sheetCount;
            time = other.time;
            refused = other.refused;
            for (int i = 0; i < roadCount; i++) {
                roads[i].copyFrom(other.roads[i]);
            }
            for (int i = 0; i < runnerCount; i++) {
                runners[i].copyFrom(other.runners[i]);
            }
            for (int i = 0; i < messageCount; i++) {
                messages[i] = other.messages[i];
            }
            for (int i = 0; i < sheetCount; i++) {
                sheets[i].copyFrom(other.sheets[i]);
            }
        }

        boolean hasTown(int t) {
            return t >= 0 && t < townCount;
        }

        boolean hasRoad(int w) {
            return w >= 0 && w < roadCount;
        }

        boolean hasRunner(int r) {
            return r >= 0 && r < runnerCount;
        }

        boolean hasMessage(int m) {
            return m >= 0 && m < messageCount;
        }

        boolean hasSheet(int s) {
            return s >= 0 && s < sheetCount;
        }

        /** The town where the sheet is, NONE if it is in none. */
        int placeOf(int s) {
            Sheet sheet = sheets[s];
            if (sheet.carrier == NONE) {
                return sheet.town;
            }
            Runner runner = runners[sheet.carrier];
            return runner.left == 0 ? runner.town : NONE;
        }

        int readOf(int s) {
            return sheets[s].readWith(sheets[s].ink);
        }

        int errorsAfter(int s, int hours) {
            Sheet sheet = sheets[s];
            int read = sheet.readWith(sheet.inkAfter(hours));
            return read == NONE ? PLACES : Digits.unlikePlaces(read, messages[sheet.message]);
        }

        int allErrors() {
            int errors = 0;
            for (int s = 0; s < sheetCount; s++) {
                errors += errorsAfter(s, 0);
            }
            return errors;
        }

        int unreadable() {
            int count = 0;
            for (int s = 0; s < sheetCount; s++) {
                if (!sheets[s].isReadable()) {
                    count++;
                }
            }
            return count;
        }

        int runnersInTowns() {
            int set = 0;
            for (int r = 0; r < runnerCount; r++) {
                if (runners[r].left == 0) {
                    set |= 1 << r;
                }
            }
            return set;
        }

        int carriedBy(int r) {
            int set = 0;
            for (int s = 0; s < sheetCount; s++) {
                if (sheets[s].carrier == r) {
                    set |= 1 << s;
                }
            }
            return set;
        }

        /** Tells whether a runner is in the town, the one who is left out not counted. */
        boolean hasRunnerIn(int town, int leftOut) {
            for (int r = 0; r < runnerCount; r++) {
                if (r != leftOut && runners[r].isIn(town)) {
                    return true;
                }
            }
            return false;
        }

        /** The reason why the sheet cannot be copied, 0 if it can be. */
        int copyHindrance(int s) {
            int place = placeOf(s);
            if (place == NONE) {
                return 1;
            }
            if (!sheets[s].isReadable()) {
                return 2;
            }
            if (!hasRunnerIn(place, sheets[s].carrier)) {
                return 3;
            }
            return sheetCount >= MOST_SHEETS ? 4 : 0;
        }

        /** The reason why no proof can be made of the three sheets, 0 if it can be. */
        int proofHindrance(int a, int b, int c) {
            int place = placeOf(a);
            if (place == NONE || placeOf(b) != place || placeOf(c) != place) {
                return 1;
            }
            if (!sheets[a].isReadable() || !sheets[b].isReadable() || !sheets[c].isReadable()) {
                return 2;
            }
            if (!hasRunnerIn(place, NONE)) {
                return 3;
            }
            return sheetCount >= MOST_SHEETS ? 4 : 0;
        }

        int bestOf(int m) {
            int best = NONE;
            for (int s = 0; s < sheetCount; s++) {
                if (sheets[s].message == m && (best == NONE || isBetter(s, best))) {
                    best = s;
                }
            }
            return best;
        }

        private boolean isBetter(int s, int other) {
            int errors = errorsAfter(s, 0);
            int otherErrors = errorsAfter(other, 0);
            return errors < otherErrors || errors == otherErrors && sheets[s].ink > sheets[other].ink;
        }

        int addTown() {
            if (townCount >= MOST_TOWNS) {
                return NOT_NOW;
            }
            townCount++;
            return townCount - 1;
        }

        int addRoad(int a, int b, int hours) {
            if (!hasTown(a) || !hasTown(b)) {
                return NO_SUCH;
            }
            if (a == b || !inRange(hours, 1, MOST_ROAD_HOURS)) {
                return OUT_OF_RANGE;
            }
            if (roadCount >= MOST_ROADS) {
                return NOT_NOW;
            }
            Road road = roads[roadCount];
            road.from = a;
            road.to = b;
            road.hours = hours;
            roadCount++;
            return roadCount - 1;
        }

        int addRunner(int t) {
            if (!hasTown(t)) {
                return NO_SUCH;
            }
            if (runnerCount >= MOST_RUNNERS) {
                return NOT_NOW;
            }
            Runner runner = runners[runnerCount];
            runner.town = t;
            runner.left = 0;
            runner.walked = 0;
            runnerCount++;
            return runnerCount - 1;
        }

        int addMessage(int t, int digits, int fade) {
            if (!hasTown(t)) {
                return NO_SUCH;
            }
            if (!inRange(digits, 0, MOST_DIGITS) || !inRange(fade, 0, MOST_FADE)) {
                return OUT_OF_RANGE;
            }
            if (messageCount >= MOST_MESSAGES || sheetCount >= MOST_SHEETS) {
                return NOT_NOW;
            }
            messages[messageCount] = digits;
            messageCount++;
            addSheet(messageCount - 1, digits, fade, t);
            return messageCount - 1;
        }

        /** The callers have seen that there is room for one more sheet. */
        private void addSheet(int message, int digits, int fade, int town) {
            Sheet sheet = sheets[sheetCount];
            sheet.message = message;
            sheet.digits = digits;
            sheet.ink = FULL_INK;
            sheet.fade = fade;
            sheet.carrier = NONE;
            sheet.town = town;
            sheetCount++;
        }

        int handOver(int r, int s) {
            if (!hasRunner(r) || !hasSheet(s)) {
                return NO_SUCH;
            }
            Runner runner = runners[r];
            Sheet sheet = sheets[s];
            int carried = Integer.bitCount(carriedBy(r));
            if (runner.left > 0 || placeOf(s) != runner.town || sheet.carrier == r || carried >= MOST_CARRIED) {
                return NOT_NOW;
            }
            sheet.carrier = r;
            return carried + 1;
        }

        int layDown(int s) {
            if (!hasSheet(s)) {
                return NO_SUCH;
            }
            Sheet sheet = sheets[s];
            int place = placeOf(s);
            if (place == NONE || sheet.carrier == NONE) {
                return NOT_NOW;
            }
            sheet.carrier = NONE;
            sheet.town = place;
            return place;
        }

        int send(int r, int w) {
            if (!hasRunner(r) || !hasRoad(w)) {
                return NO_SUCH;
            }
            Runner runner = runners[r];
            Road road = roads[w];
            if (runner.left > 0 || !road.touches(runner.town)) {
                return NOT_NOW;
            }
            runner.town = road.otherEnd(runner.town);
            runner.left = road.hours;
            return runner.town;
        }

        int addCopy(int s, int fade) {
            if (!hasSheet(s)) {
                return NO_SUCH;
            }
            if (!inRange(fade, 0, MOST_FADE)) {
                return OUT_OF_RANGE;
            }
            int reason = copyHindrance(s);
            if (reason == 0) {
                addSheet(sheets[s].message, readOf(s), fade, placeOf(s));
            }
            return reason;
        }

        int addProof(int a, int b, int c, int fade) {
            if (!hasSheet(a) || !hasSheet(b) || !hasSheet(c)) {
                return NO_SUCH;
            }
            int message = sheets[a].message;
            boolean unlike = a != b && a != c && b != c;
            boolean ofOneMessage = sheets[b].message == message && sheets[c].message == message;
            if (!unlike || !ofOneMessage || !inRange(fade, 0, MOST_FADE)) {
                return OUT_OF_RANGE;
            }
            int reason = proofHindrance(a, b, c);
            if (reason == 0) {
                addSheet(message, Digits.majority(readOf(a), readOf(b), readOf(c)), fade, placeOf(a));
            }
            return reason;
        }

        int passHours(int n) {
            if (!inRange(n, 1, MOST_HOURS)) {
                return OUT_OF_RANGE;
            }
            int arrivals = 0;
            for (int i = 0; i < n; i++) {
                arrivals += passHour();
            }
            return arrivals;
        }

        private int passHour() {
            time++;
            for (int s = 0; s < sheetCount; s++) {
                sheets[s].ink = sheets[s].inkAfter(1);
            }
            int arrivals = 0;
            for (int r = 0; r < runnerCount; r++) {
                if (runners[r].walkedIn()) {
                    arrivals++;
                }
            }
            return arrivals;
        }
    }

    /** The remembered states, in a ring of rows with one row to spare for the state before the call that is running. */
    private static final class Past {
        private static final int ROWS = MOST_REMEMBERED + 1;
        private final Country[] rows;
        private int first;
        int count;

        Past() {
            rows = new Country[ROWS];
            for (int i = 0; i < ROWS; i++) {
                rows[i] = new Country();
            }
        }

        void forget() {
            count = 0;
        }

        /** Writes the state into the spare row; it is remembered only by keepPrepared. */
        void prepare(Country state) {
            rows[(first + count) % ROWS].copyFrom(state);
        }

        void keepPrepared() {
            if (count < MOST_REMEMBERED) {
                count++;
            } else {
                first = (first + 1) % ROWS;
            }
        }

        int takeBack(Country state) {
            if (count > 0) {
                count--;
                state.copyFrom(rows[(first + count) % ROWS]);
            }
            return count;
        }
    }

    /** Finds ways by roads. The towns that it is asked for are there. */
    private static final class Planner {
        /** More hours than any way takes. */
        private static final int FAR = 1000000;
        private final int[] reached;
        private final boolean[] left;

        Planner() {
            reached = new int[MOST_TOWNS];
            left = new boolean[MOST_TOWNS];
        }

        int nearestFirst(Country country, int a, int b) {
            spreadFrom(country, a);
            return hoursTo(b);
        }

        int roundByRound(Country country, int a, int b) {
            startAt(a);
            boolean changed = true;
            for (int round = 0; changed && round <= MOST_TOWNS; round++) {
                changed = false;
                for (int w = 0; w < country.roadCount; w++) {
                    Road road = country.roads[w];
                    boolean forth = shorten(road.from, road);
                    boolean back = shorten(road.to, road);
                    changed = changed || forth || back;
                }
            }
            return hoursTo(b);
        }

        /** The way is measured from its end: a road is as long both ways. */
        int lowestRoad(Country country, int a, int b) {
            spreadFrom(country, b);
            if (a == b || reached[a] == FAR) {
                return NONE;
            }
            for (int w = 0; w < country.roadCount; w++) {
                Road road = country.roads[w];
                if (road.touches(a) && road.hours + reached[road.otherEnd(a)] == reached[a]) {
                    return w;
                }
            }
            return NONE;
        }

        private void startAt(int a) {
            for (int t = 0; t < MOST_TOWNS; t++) {
                reached[t] = FAR;
            }
            reached[a] = 0;
        }

        private int hoursTo(int b) {
            return reached[b] == FAR ? NONE : reached[b];
        }

        private void spreadFrom(Country country, int a) {
            startAt(a);
            for (int t = 0; t < MOST_TOWNS; t++) {
                left[t] = false;
            }
            int from = a;
            for (int step = 0; step < MOST_TOWNS && from != NONE; step++) {
                left[from] = true;
                for (int w = 0; w < country.roadCount; w++) {
                    if (country.roads[w].touches(from)) {
                        shorten(from, country.roads[w]);
                    }
                }
                from = soonestOpen();
            }
        }

        /** The town reached soonest from which nothing has gone on yet, NONE if there is none. */
        private int soonestOpen() {
            int soonest = NONE;
            for (int t = 0; t < MOST_TOWNS; t++) {
                if (!left[t] && reached[t] < FAR && (soonest == NONE || reached[t] < reached[soonest])) {
                    soonest = t;
                }
            }
            return soonest;
        }

        /** Goes on from the town along its road; tells whether the other end is reached sooner than before. */
        private boolean shorten(int from, Road road) {
            int to = road.otherEnd(from);
            int hours = reached[from] + road.hours;
            if (reached[from] == FAR || hours >= reached[to]) {
                return false;
            }
            reached[to] = hours;
            return true;
        }
    }

    /** The text buffer, and the reading of it as a country. */
    private static final class CommandText {
        private final char[] signs;
        private final int[] numbers;
        private int length;
        private int at;
        private char letter;

        CommandText() {
            signs = new char[MOST_SIGNS];
            numbers = new int[3];
        }

        boolean isFull() {
            return length >= MOST_SIGNS;
        }

        /** The caller has seen that the text is not full. */
        int add(char sign) {
            signs[length] = sign;
            length++;
            return length;
        }

        int empty() {
            int before = length;
            length = 0;
            return before;
        }

        int firstError() {
            if (length == 0 || signs[0] != 'F') {
                return 0;
            }
            at = 1;
            // Each command takes a sign at least, so there are fewer commands than signs.
            for (int n = 1; n < length && at < length; n++) {
                if (!readCommand()) {
                    return at;
                }
            }
            return NONE;
        }

        /** Lets the country do the commands of a text without errors; answers how many are left out. */
        int giveTo(Country country) {
            int leftOut = 0;
            at = 1;
            for (int n = 1; n < length && at < length; n++) {
                if (!readCommand() || !giveCommandTo(country)) {
                    leftOut++;
                }
            }
            return leftOut;
        }

        /** Reads a command; if that cannot be, answers false and stands at the first sign that is not allowed. */
        private boolean readCommand() {
            if (at >= length) {
                return false;
            }
            letter = signs[at];
            at++;
            switch (letter) {
                case 't': return true;
                case 'r': return readTown(0) && readTown(1) && readNumber(2, 2, 1, MOST_ROAD_HOURS);
                case 'u': return readTown(0);
                case 'w': return readTown(0) && readNumber(1, PLACES, 0, MOST_DIGITS) && readNumber(2, 1, 0, MOST_FADE);
                case 'k': return readRunner(0) && readSheet(1);
                case 'l': return readSheet(0);
                case 'g': return readRunner(0) && readNumber(1, 1, 0, MOST_ROADS - 1);
                case 'c': return readSheet(0) && readNumber(1, 1, 0, MOST_FADE);
                case 'h': return readNumber(0, 2, 1, MOST_HOURS);
                default:
                    at--;
                    return false;
            }
        }

        private boolean readTown(int which) {
            return readNumber(which, 1, 0, MOST_TOWNS - 1);
        }

        private boolean readRunner(int which) {
            return readNumber(which, 1, 0, MOST_RUNNERS - 1);
        }

        private boolean readSheet(int which) {
            return readNumber(which, 2, 0, MOST_SHEETS - 1);
        }

        /** Reads a number of so many digits; each digit must leave a way to a number from least to most. */
        private boolean readNumber(int which, int width, int least, int most) {
            int unit = 1;
            for (int i = 1; i < width; i++) {
                unit *= 10;
            }
            int value = 0;
            for (int i = 0; i < width; i++) {
                if (at >= length || !inRange(signs[at], '0', '9')) {
                    return false;
                }
                int lowest = value + (signs[at] - '0') * unit;
                if (lowest > most || lowest + unit - 1 < least) {
                    return false;
                }
                value = lowest;
                unit /= 10;
                at++;
            }
            numbers[which] = value;
            return true;
        }

        /** Tells whether the country does the command that was read. */
        private boolean giveCommandTo(Country country) {
            switch (letter) {
                case 't': return country.addTown() >= 0;
                case 'r': return country.addRoad(numbers[0], numbers[1], numbers[2]) >= 0;
                case 'u': return country.addRunner(numbers[0]) >= 0;
                case 'w': return country.addMessage(numbers[0], numbers[1], numbers[2]) >= 0;
                case 'k': return country.handOver(numbers[0], numbers[1]) >= 0;
                case 'l': return country.layDown(numbers[0]) >= 0;
                case 'g': return country.send(numbers[0], numbers[1]) >= 0;
                case 'c': return country.addCopy(numbers[0], numbers[1]) == 0;
                default: return country.passHours(numbers[0]) >= 0;
            }
        }
    }

    /** The commands of scripts and the turns of simulations. */
    private static final class Script {
        private static final int GROUP = 100000;

        /** The script without so many groups of five digits at its end. */
        static long without(long script, int groups) {
            long rest = script;
            for (int i = 0; i < groups; i++) {
                rest /= GROUP;
            }
            return rest;
        }

        static int lastGroup(long script) {
            return (int) (script % GROUP);
        }

        static boolean succeeds(int group, Country country, Planner planner) {
            int d2 = group / 1000 % 10;
            int d3 = group / 100 % 10;
            int d4 = group / 10 % 10;
            int d5 = group % 10;
            int d23 = 10 * d2 + d3;
            int d45 = 10 * d4 + d5;
            switch (group / 10000) {
                case 1: return d5 == 0 && country.handOver(d2, 10 * d3 + d4) >= 0;
                case 2: return d45 == 0 && country.layDown(d23) >= 0;
                case 3: return d45 == 0 && country.send(d2, d3) >= 0;
                case 4: return d5 == 0 && country.addCopy(d23, d4) == 0;
                case 5: return d23 == 0 && country.passHours(d45) >= 0;
                case 6: return d4 == 0 && country.hasSheet(d23) && country.errorsAfter(d23, 0) <= d5;
                case 7: return country.hasSheet(d23) && country.sheets[d23].ink >= d45;
                case 8: return d45 == 0 && country.hasRunner(d2) && country.hasTown(d3)
                        && country.runners[d2].isIn(d3);
                case 9: return country.hasTown(d2) && country.hasTown(d3)
                        && inRange(planner.nearestFirst(country, d2, d3), 0, d45);
                default: return false;
            }
        }

        /** What cannot be done changes nothing, and so is left out. */
        static void turn(int r, Country country) {
            int q = r / 16;
            switch (r % 16) {
                case 0:
                    country.addTown();
                    break;
                case 1:
                case 2:
                    country.addRoad(q % 6, q / 8 % 6, 1 + q / 64 % 20);
                    break;
                case 3:
                    country.addRunner(q % 6);
                    break;
                case 4:
                    country.addMessage(q % 6, q / 8 % 1000000, q % 10);
                    break;
                case 5:
                case 6:
                    country.handOver(q % 5, q / 8 % 12);
                    break;
                case 7:
                    country.layDown(q % 12);
                    break;
                case 8:
                case 9:
                case 10:
                    country.send(q % 5, q / 8 % 10);
                    break;
                case 11:
                case 12:
                    country.addCopy(q % 12, q / 16 % 10);
                    break;
                case 13:
                    country.addProof(q % 12, q / 16 % 12, q / 256 % 12, q % 10);
                    break;
                default:
                    country.passHours(1 + q % 20);
                    break;
            }
        }
    }
}

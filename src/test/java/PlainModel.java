import java.util.ArrayDeque;
import java.util.ArrayList;
import java.util.Deque;
import java.util.HashSet;
import java.util.List;
import java.util.regex.Matcher;
import java.util.regex.Pattern;

/**
 * The document once more, in another way than the class: digits are texts, states are whole copies, ways are sums of
 * three loops, texts are read by an expression.
 */
final class PlainModel {
    private static final int NONE = -1;
    private static final Pattern COMMANDS = Pattern.compile("F(?:t|r[0-5][0-5](?:0[1-9]|1[0-9]|20)|u[0-5]"
            + "|w[0-5][0-9]{6}[0-9]|k[0-4](?:0[0-9]|1[01])|l(?:0[0-9]|1[01])|g[0-4][0-9]|c(?:0[0-9]|1[01])[0-9]"
            + "|h(?:0[1-9]|[1-5][0-9]|60))*");

    private record Road(int a, int b, int hours) {
    }

    private record Runner(int town, int left, int walked) {
    }

    private record Sheet(int message, String digits, int ink, int fade, int carrier, int town) {
    }

    private static final class State {
        int towns;
        int time;
        int refused;
        List<Road> roads = new ArrayList<>();
        List<Runner> runners = new ArrayList<>();
        List<String> messages = new ArrayList<>();
        List<Sheet> sheets = new ArrayList<>();

        State copy() {
            State other = new State();
            other.towns = towns;
            other.time = time;
            other.refused = refused;
            other.roads.addAll(roads);
            other.runners.addAll(runners);
            other.messages.addAll(messages);
            other.sheets.addAll(sheets);
            return other;
        }
    }

    private State state = new State();
    private final Deque<State> past = new ArrayDeque<>();
    private final State[] slots = new State[2];
    private String text = "";

    private static void there(int i, int count) {
        if (i < 0 || i >= count) {
            throw new IndexOutOfBoundsException();
        }
    }

    private static void range(boolean within) {
        if (!within) {
            throw new IllegalArgumentException();
        }
    }

    private static void can(boolean possible) {
        if (!possible) {
            throw new IllegalStateException();
        }
    }

    int append(int c) {
        range(c >= 0 && c <= 255);
        can(text.length() < 120);
        text += (char) c;
        return text.length();
    }

    int clearText() {
        int length = text.length();
        text = "";
        return length;
    }

    int errorPosition() {
        if (COMMANDS.matcher(text).matches()) {
            return NONE;
        }
        for (int n = text.length(); n > 0; n--) {
            Matcher matcher = COMMANDS.matcher(text.substring(0, n));
            if (matcher.matches() || matcher.hitEnd()) {
                return n;
            }
        }
        return 0;
    }

    int load() {
        can(errorPosition() == NONE);
        state = new State();
        slots[0] = null;
        slots[1] = null;
        int leftOut = 0;
        for (String command : text.substring(1).split("(?=[a-z])")) {
            if (!command.isEmpty() && !done(command)) {
                leftOut++;
            }
        }
        past.clear();
        state.refused = 0;
        return leftOut;
    }

    private static int number(String command, int from, int to) {
        return Integer.parseInt(command.substring(from, to));
    }

    private boolean done(String c) {
        try {
            switch (c.charAt(0)) {
                case 't' -> town();
                case 'r' -> road(number(c, 1, 2), number(c, 2, 3), number(c, 3, 5));
                case 'u' -> runner(number(c, 1, 2));
                case 'w' -> write(number(c, 1, 2), number(c, 2, 8), number(c, 8, 9));
                case 'k' -> take(number(c, 1, 2), number(c, 2, 4));
                case 'l' -> lay(number(c, 1, 3));
                case 'g' -> go(number(c, 1, 2), number(c, 2, 3));
                case 'c' -> {
                    return copy(number(c, 1, 3), number(c, 3, 4)) == 0;
                }
                default -> hours(number(c, 1, 3));
            }
            return true;
        } catch (RuntimeException e) {
            return false;
        }
    }

    int about(int what) {
        range(what >= 0 && what <= 9);
        int errors = 0;
        int unread = 0;
        for (int s = 0; s < state.sheets.size(); s++) {
            errors += errors(s, 0);
            unread += state.sheets.get(s).ink == 0 ? 1 : 0;
        }
        int set = 0;
        for (int r = 0; r < state.runners.size(); r++) {
            set += state.runners.get(r).left == 0 ? 1 << r : 0;
        }
        return new int[] {state.towns, state.roads.size(), state.runners.size(), state.messages.size(),
            state.sheets.size(), state.time, errors, unread, state.refused, set}[what];
    }

    int roadOf(int w, int what) {
        there(w, state.roads.size());
        range(what >= 0 && what <= 2);
        Road road = state.roads.get(w);
        return new int[] {road.a, road.b, road.hours}[what];
    }

    int runnerOf(int r, int what) {
        there(r, state.runners.size());
        range(what >= 0 && what <= 3);
        Runner runner = state.runners.get(r);
        int set = 0;
        for (int s = 0; s < state.sheets.size(); s++) {
            set += state.sheets.get(s).carrier == r ? 1 << s : 0;
        }
        return new int[] {runner.town, runner.left, set, runner.walked}[what];
    }

    int sheetOf(int s, int what) {
        there(s, state.sheets.size());
        range(what >= 0 && what <= 7);
        Sheet sheet = state.sheets.get(s);
        String read = read(s, 0);
        return new int[] {sheet.message, sheet.ink, sheet.fade, sheet.carrier, place(s), errors(s, 0),
            Integer.parseInt(sheet.digits), read == null ? NONE : Integer.parseInt(read)}[what];
    }

    int message(int m) {
        there(m, state.messages.size());
        return Integer.parseInt(state.messages.get(m));
    }

    private int place(int s) {
        Sheet sheet = state.sheets.get(s);
        if (sheet.carrier == NONE) {
            return sheet.town;
        }
        Runner runner = state.runners.get(sheet.carrier);
        return runner.left > 0 ? NONE : runner.town;
    }

    private String read(int s, int later) {
        Sheet sheet = state.sheets.get(s);
        int k = sheet.ink;
        for (int i = 0; i < later; i++) {
            k = Math.max(0, k - sheet.fade);
        }
        if (k == 0) {
            return null;
        }
        StringBuilder read = new StringBuilder();
        for (int place = 0; place < 6; place++) {
            boolean blurred = k < 40 && place == k % 6 || k < 20 && place == (k + 2) % 6;
            char digit = sheet.digits.charAt(place);
            read.append(blurred ? "1234567890".charAt(digit - '0') : digit);
        }
        return read.toString();
    }

    private int errors(int s, int later) {
        String read = read(s, later);
        int errors = 0;
        for (int place = 0; place < 6; place++) {
            String message = state.messages.get(state.sheets.get(s).message);
            errors += read == null || read.charAt(place) != message.charAt(place) ? 1 : 0;
        }
        return errors;
    }

    private void remember() {
        past.addLast(state.copy());
        if (past.size() > 14) {
            past.removeFirst();
        }
    }

    int town() {
        can(state.towns < 6);
        remember();
        return state.towns++;
    }

    int road(int a, int b, int hours) {
        there(a, state.towns);
        there(b, state.towns);
        range(a != b && hours >= 1 && hours <= 20);
        can(state.roads.size() < 10);
        remember();
        state.roads.add(new Road(a, b, hours));
        return state.roads.size() - 1;
    }

    int runner(int t) {
        there(t, state.towns);
        can(state.runners.size() < 5);
        remember();
        state.runners.add(new Runner(t, 0, 0));
        return state.runners.size() - 1;
    }

    int write(int t, int digits, int fade) {
        there(t, state.towns);
        range(digits >= 0 && digits <= 999999 && fade >= 0 && fade <= 9);
        can(state.messages.size() < 6 && state.sheets.size() < 12);
        remember();
        state.messages.add(String.format("%06d", digits));
        int m = state.messages.size() - 1;
        state.sheets.add(new Sheet(m, state.messages.get(m), 99, fade, NONE, t));
        return m;
    }

    private void put(int s, int carrier, int town) {
        Sheet sheet = state.sheets.get(s);
        state.sheets.set(s, new Sheet(sheet.message, sheet.digits, sheet.ink, sheet.fade, carrier, town));
    }

    int take(int r, int s) {
        there(r, state.runners.size());
        there(s, state.sheets.size());
        Runner runner = state.runners.get(r);
        can(runner.left == 0 && place(s) == runner.town && state.sheets.get(s).carrier != r);
        can(Integer.bitCount(runnerOf(r, 2)) < 3);
        remember();
        put(s, r, NONE);
        return Integer.bitCount(runnerOf(r, 2));
    }

    int lay(int s) {
        there(s, state.sheets.size());
        can(place(s) != NONE && state.sheets.get(s).carrier != NONE);
        remember();
        put(s, NONE, place(s));
        return place(s);
    }

    int go(int r, int w) {
        there(r, state.runners.size());
        there(w, state.roads.size());
        Runner runner = state.runners.get(r);
        Road road = state.roads.get(w);
        can(runner.left == 0 && (road.a == runner.town || road.b == runner.town));
        remember();
        int to = road.a + road.b - runner.town;
        state.runners.set(r, new Runner(to, road.hours, runner.walked));
        return to;
    }

    private boolean isAnyoneIn(int town, int but) {
        for (int r = 0; r < state.runners.size(); r++) {
            Runner runner = state.runners.get(r);
            if (r != but && runner.left == 0 && runner.town == town) {
                return true;
            }
        }
        return false;
    }

    int why(int s) {
        there(s, state.sheets.size());
        return place(s) == NONE ? 1 : read(s, 0) == null ? 2
                : !isAnyoneIn(place(s), state.sheets.get(s).carrier) ? 3 : state.sheets.size() == 12 ? 4 : 0;
    }

    int copy(int s, int fade) {
        there(s, state.sheets.size());
        range(fade >= 0 && fade <= 9);
        remember();
        int reason = why(s);
        if (reason == 0) {
            state.sheets.add(new Sheet(state.sheets.get(s).message, read(s, 0), 99, fade, NONE, place(s)));
        } else {
            state.refused++;
        }
        return reason;
    }

    int proof(int a, int b, int c, int fade) {
        List<Integer> three = List.of(a, b, c);
        three.forEach(s -> there(s, state.sheets.size()));
        HashSet<Integer> messages = new HashSet<>();
        three.forEach(s -> messages.add(state.sheets.get(s).message));
        range(new HashSet<>(three).size() == 3 && messages.size() == 1 && fade >= 0 && fade <= 9);
        remember();
        HashSet<Integer> places = new HashSet<>();
        three.forEach(s -> places.add(place(s)));
        int reason = 0;
        if (places.size() != 1 || places.contains(NONE)) {
            reason = 1;
        } else if (three.stream().anyMatch(s -> read(s, 0) == null)) {
            reason = 2;
        } else if (!isAnyoneIn(place(a), NONE)) {
            reason = 3;
        } else if (state.sheets.size() == 12) {
            reason = 4;
        }
        if (reason != 0) {
            state.refused++;
            return reason;
        }
        StringBuilder digits = new StringBuilder();
        for (int i = 0; i < 6; i++) {
            char first = read(a, 0).charAt(i);
            char second = read(b, 0).charAt(i);
            char third = read(c, 0).charAt(i);
            digits.append(first == second || first == third ? first : second == third ? second : first);
        }
        state.sheets.add(new Sheet(state.sheets.get(a).message, digits.toString(), 99, fade, NONE, place(a)));
        return 0;
    }

    int hours(int n) {
        range(n >= 1 && n <= 60);
        remember();
        int arrivals = 0;
        for (int hour = 0; hour < n; hour++) {
            state.time++;
            state.sheets.replaceAll(s -> new Sheet(s.message, s.digits, Math.max(0, s.ink - s.fade), s.fade,
                    s.carrier, s.town));
            for (int r = 0; r < state.runners.size(); r++) {
                Runner old = state.runners.get(r);
                if (old.left > 0) {
                    state.runners.set(r, new Runner(old.town, old.left - 1, old.walked + 1));
                    arrivals += old.left == 1 ? 1 : 0;
                }
            }
        }
        return arrivals;
    }

    int undo() {
        can(!past.isEmpty());
        state = past.removeLast();
        return past.size();
    }

    int errorsIn(int s, int n) {
        there(s, state.sheets.size());
        range(n >= 0 && n <= 200);
        return errors(s, n);
    }

    int rightFor(int s) {
        there(s, state.sheets.size());
        int n = 1;
        while (n <= 200 && errors(s, n) <= errors(s, 0)) {
            n++;
        }
        return n > 200 ? NONE : n;
    }

    int route(int a, int b, int way) {
        there(a, state.towns);
        there(b, state.towns);
        range(way == 0 || way == 1);
        int[][] far = new int[6][6];
        for (int i = 0; i < 6; i++) {
            for (int j = 0; j < 6; j++) {
                far[i][j] = i == j ? 0 : 9999;
            }
        }
        for (Road road : state.roads) {
            far[road.a][road.b] = Math.min(far[road.a][road.b], road.hours);
            far[road.b][road.a] = far[road.a][road.b];
        }
        for (int by = 0; by < 6; by++) {
            for (int i = 0; i < 6; i++) {
                for (int j = 0; j < 6; j++) {
                    far[i][j] = Math.min(far[i][j], far[i][by] + far[by][j]);
                }
            }
        }
        return far[a][b] >= 9999 ? NONE : far[a][b];
    }

    int roadTo(int a, int b) {
        int hours = route(a, b, 0);
        for (int w = 0; w < state.roads.size() && a != b; w++) {
            Road road = state.roads.get(w);
            if (road.a == a || road.b == a) {
                int rest = route(road.a + road.b - a, b, 0);
                if (rest != NONE && rest + road.hours == hours) {
                    return w;
                }
            }
        }
        return NONE;
    }

    int ifBrought(int s, int t) {
        there(s, state.sheets.size());
        there(t, state.towns);
        Sheet sheet = state.sheets.get(s);
        int from = sheet.carrier == NONE ? sheet.town : state.runners.get(sheet.carrier).town;
        int before = sheet.carrier == NONE ? 0 : state.runners.get(sheet.carrier).left;
        int hours = route(from, t, 0);
        return hours == NONE ? NONE : errors(s, before + hours);
    }

    int best(int m) {
        there(m, state.messages.size());
        int best = NONE;
        for (int s = state.sheets.size() - 1; s >= 0; s--) {
            if (state.sheets.get(s).message == m && (best == NONE || rank(s) <= rank(best))) {
                best = s;
            }
        }
        return best;
    }

    private int rank(int s) {
        return 100 * errors(s, 0) + 99 - state.sheets.get(s).ink;
    }

    int runScript(int n, long script) {
        range(n >= 1 && n <= 3);
        range(script >= 0 && Long.toString(script).length() <= 5 * n);
        String digits = String.format("%0" + 5 * n + "d", script);
        PlainModel trial = new PlainModel();
        trial.state = state.copy();
        for (int i = 0; i < n; i++) {
            if (!trial.succeeds(digits.substring(5 * i, 5 * i + 5))) {
                return i;
            }
        }
        return NONE;
    }

    private boolean succeeds(String g) {
        try {
            if (g.matches("1...0")) {
                return take(number(g, 1, 2), number(g, 2, 4)) > 0;
            } else if (g.matches("2..00")) {
                return lay(number(g, 1, 3)) >= 0;
            } else if (g.matches("3..00")) {
                return go(number(g, 1, 2), number(g, 2, 3)) >= 0;
            } else if (g.matches("4...0")) {
                return copy(number(g, 1, 3), number(g, 3, 4)) == 0;
            } else if (g.matches("500..")) {
                return hours(number(g, 3, 5)) >= 0;
            } else if (g.matches("6..0.")) {
                return sheetOf(number(g, 1, 3), 5) <= number(g, 4, 5);
            } else if (g.matches("7....")) {
                return sheetOf(number(g, 1, 3), 1) >= number(g, 3, 5);
            } else if (g.matches("8..00")) {
                there(number(g, 2, 3), state.towns);
                int r = number(g, 1, 2);
                return runnerOf(r, 0) == number(g, 2, 3) && runnerOf(r, 1) == 0;
            } else if (g.matches("9....")) {
                int hours = route(number(g, 1, 2), number(g, 2, 3), 0);
                return hours != NONE && hours <= number(g, 3, 5);
            }
            return false;
        } catch (RuntimeException e) {
            return false;
        }
    }

    int simulate(long seed, int m) {
        range(m >= 1 && m <= 60);
        PlainModel trial = new PlainModel();
        trial.state = state.copy();
        long x = seed;
        for (int i = 0; i < m; i++) {
            x = x * 6364136223846793005L + 1442695040888963407L;
            int r = (int) (x >>> 33);
            try {
                trial.turn(r % 16, r / 16);
            } catch (RuntimeException e) {
                // left out
            }
        }
        return 10000 * trial.about(4) + 100 * trial.about(6) + trial.about(7);
    }

    private void turn(int kind, int q) {
        if (kind == 0) {
            town();
        } else if (kind <= 2) {
            road(q % 6, q / 8 % 6, 1 + q / 64 % 20);
        } else if (kind == 3) {
            runner(q % 6);
        } else if (kind == 4) {
            write(q % 6, q / 8 % 1000000, q % 10);
        } else if (kind <= 6) {
            take(q % 5, q / 8 % 12);
        } else if (kind == 7) {
            lay(q % 12);
        } else if (kind <= 10) {
            go(q % 5, q / 8 % 10);
        } else if (kind <= 12) {
            copy(q % 12, q / 16 % 10);
        } else if (kind == 13) {
            proof(q % 12, q / 16 % 12, q / 256 % 12, q % 10);
        } else {
            hours(1 + q % 20);
        }
    }

    int save(int slot) {
        there(slot, 2);
        slots[slot] = state.copy();
        return state.time;
    }

    int restore(int slot) {
        there(slot, 2);
        can(slots[slot] != null);
        state = slots[slot].copy();
        past.clear();
        return state.time;
    }
}

import java.util.Random;

/** Runs of 512 calls, drawn from fixed seeds, on the class and on the plain model: they must answer alike. */
final class ModelTest {
    private static final int RUNS = 400;
    /** What later calls answer is free. */
    private static final int CALLS = 512;

    private final Random random;
    private final FadingSheets x = new FadingSheets();
    private final PlainModel model = new PlainModel();
    private final StringBuilder calls = new StringBuilder();
    private int made;

    private ModelTest(long seed) {
        random = new Random(seed);
    }

    public static void main(String[] args) {
        for (int run = 0; run < RUNS; run++) {
            if (!new ModelTest(run).isAlike()) {
                System.out.println("run " + run + " is not as the model's");
                System.exit(1);
            }
        }
    }

    private boolean isAlike() {
        // loads and restores throw so much away that many of them would keep all runs small
        int rare = random.nextInt(4) == 0 ? 10 : 2;
        while (made < CALLS) {
            if (!(random.nextInt(100) < rare ? rareCall() : random.nextInt(2) == 0 ? action() : question())) {
                System.out.println(calls);
                return false;
            }
        }
        return true;
    }

    private boolean due(String call, Check.Call ours, Check.Call models) {
        if (made == CALLS) {
            return true;
        }
        made++;
        String got = answer(ours);
        String want = answer(models);
        calls.append(call).append(" = ").append(want).append('\n');
        if (!got.equals(want)) {
            calls.append("answered ").append(got).append(", the model says ").append(want).append('\n');
            return false;
        }
        return true;
    }

    private static String answer(Check.Call call) {
        try {
            return String.valueOf(call.answer());
        } catch (RuntimeException e) {
            return e.getClass().getName();
        }
    }

    /** Mostly below the count, now and then any int around the bounds. */
    private int pick(int count) {
        int kind = random.nextInt(40);
        if (kind == 0) {
            return random.nextInt();
        }
        if (kind == 1) {
            return -1;
        }
        return random.nextInt(count + (kind == 2 ? 3 : 0) + (count < 1 ? 1 : 0));
    }

    private int within(int least, int most) {
        int kind = random.nextInt(60);
        return kind == 0 ? least - 1 : kind == 1 ? most + 1 : kind == 2 ? random.nextInt()
                : least + random.nextInt(most - least + 1);
    }

    private int towns() {
        return pick(model.about(0));
    }

    private int sheets() {
        return pick(model.about(4));
    }

    private int runners() {
        return pick(model.about(2));
    }

    private int roads() {
        return pick(model.about(1));
    }

    private boolean rareCall() {
        int slot = random.nextInt(8) == 0 ? random.nextInt(5) - 2 : random.nextInt(2);
        switch (random.nextInt(5)) {
            case 0:
                return textCalls();
            case 1:
                return due("restore " + slot, () -> x.restore(slot), () -> model.restore(slot));
            case 2:
            case 3:
                return due("save " + slot, () -> x.save(slot), () -> model.save(slot));
            default:
                int c = random.nextInt(300) - 20;
                return due("append " + c, () -> x.append(c), () -> model.append(c));
        }
    }

    private boolean textCalls() {
        String text = text();
        boolean alike = due("clearText", x::clearText, model::clearText);
        for (char sign : text.toCharArray()) {
            alike = alike && due("append " + (int) sign, () -> x.append(sign), () -> model.append(sign));
        }
        return alike && due("errorPosition of " + text, x::errorPosition, model::errorPosition)
                && due("load", x::load, model::load);
    }

    private String text() {
        StringBuilder text = new StringBuilder("F");
        int most = random.nextInt(130);
        while (text.length() < most) {
            int t = random.nextInt(text.length() < 12 ? 2 : 6);
            int s = random.nextInt(12);
            int sheet = random.nextInt(2) == 0 ? s : random.nextInt(3);
            int r = random.nextInt(5);
            switch (random.nextInt(text.length() < 10 ? 3 : 12)) {
                case 0, 1, 2 -> text.append('t');
                case 3 -> text.append('r').append(t).append(random.nextInt(3))
                        .append(String.format("%02d", 1 + random.nextInt(20)));
                case 4 -> text.append('u').append(t);
                case 5 -> text.append('w').append(t).append(String.format("%07d", random.nextInt(10000000)));
                case 6, 7 -> text.append('k').append(r).append(String.format("%02d", sheet));
                case 8 -> text.append('l').append(String.format("%02d", sheet));
                case 9 -> text.append('g').append(r).append(random.nextInt(10));
                case 10 -> text.append('c').append(String.format("%02d", sheet)).append(s % 10);
                default -> text.append('h').append(String.format("%02d", 1 + random.nextInt(60)));
            }
        }
        if (random.nextInt(3) == 0) {
            int at = random.nextInt(text.length());
            text.setCharAt(at, "Ftrukwlgch0123456789 x".charAt(random.nextInt(22)));
        }
        if (random.nextInt(4) == 0) {
            text.setLength(random.nextInt(text.length() + 1));
        }
        return text.toString();
    }

    private boolean action() {
        int a = towns();
        int b = towns();
        int r = runners();
        int s = sheets();
        int s2 = sheets();
        int s3 = sheets();
        int w = roads();
        int fade = within(0, 9);
        switch (random.nextInt(20)) {
            case 0:
                return due("town", x::town, model::town);
            case 1:
                int hours = within(1, 20);
                return due("road " + a + " " + b + " " + hours,
                        () -> x.road(a, b, hours), () -> model.road(a, b, hours));
            case 2:
                return due("runner " + a, () -> x.runner(a), () -> model.runner(a));
            case 3:
                int digits = within(0, 999999);
                return due("write " + a + " " + digits + " " + fade,
                        () -> x.write(a, digits, fade), () -> model.write(a, digits, fade));
            case 4, 5, 6:
                return due("take " + r + " " + s, () -> x.take(r, s), () -> model.take(r, s));
            case 7, 8:
                return due("lay " + s, () -> x.lay(s), () -> model.lay(s));
            case 9, 10, 11:
                return due("go " + r + " " + w, () -> x.go(r, w), () -> model.go(r, w));
            case 12, 13:
                return due("copy " + s + " " + fade, () -> x.copy(s, fade), () -> model.copy(s, fade));
            case 14, 15:
                return due("proof " + s + " " + s2 + " " + s3 + " " + fade,
                        () -> x.proof(s, s2, s3, fade), () -> model.proof(s, s2, s3, fade));
            case 16, 17:
                int n = within(1, random.nextInt(10) == 0 ? 60 : 6);
                return due("hours " + n, () -> x.hours(n), () -> model.hours(n));
            default:
                return due("undo", x::undo, model::undo);
        }
    }

    private boolean question() {
        int a = towns();
        int b = towns();
        int s = sheets();
        switch (random.nextInt(16)) {
            case 0, 1:
                return look();
            case 2, 3, 4:
                int what = within(0, 7);
                return due("sheetOf " + s + " " + what, () -> x.sheetOf(s, what), () -> model.sheetOf(s, what));
            case 5:
                return due("why " + s, () -> x.why(s), () -> model.why(s));
            case 6, 7:
                int n = within(0, random.nextInt(4) == 0 ? 200 : 20);
                return due("errorsIn " + s + " " + n, () -> x.errorsIn(s, n), () -> model.errorsIn(s, n));
            case 8:
                return due("rightFor " + s, () -> x.rightFor(s), () -> model.rightFor(s));
            case 9:
                int way = within(0, 1);
                return due("route " + a + " " + b + " " + way,
                        () -> x.route(a, b, way), () -> model.route(a, b, way));
            case 10:
                return due("roadTo " + a + " " + b, () -> x.roadTo(a, b), () -> model.roadTo(a, b));
            case 11, 12:
                return due("ifBrought " + s + " " + a, () -> x.ifBrought(s, a), () -> model.ifBrought(s, a));
            case 13:
                int m = pick(model.about(3));
                return due("best " + m, () -> x.best(m), () -> model.best(m))
                        && due("message " + m, () -> x.message(m), () -> model.message(m));
            case 14:
                return scriptCall();
            default:
                long seed = random.nextLong();
                int turns = within(1, 60);
                return due("simulate " + seed + " " + turns,
                        () -> x.simulate(seed, turns), () -> model.simulate(seed, turns));
        }
    }

    private boolean look() {
        int what = within(0, 9);
        int part = within(0, 3);
        int w = roads();
        int r = runners();
        return due("about " + what, () -> x.about(what), () -> model.about(what))
                && due("roadOf " + w + " " + part, () -> x.roadOf(w, part), () -> model.roadOf(w, part))
                && due("runnerOf " + r + " " + part, () -> x.runnerOf(r, part), () -> model.runnerOf(r, part));
    }

    private boolean scriptCall() {
        int n = within(1, 3);
        long drawn = 0;
        for (int i = 0; i < n && i < 3; i++) {
            drawn = drawn * 100000 + group();
        }
        if (random.nextInt(20) == 0) {
            drawn = random.nextLong() >> random.nextInt(60);
        }
        long script = drawn;
        return due("runScript " + n + " " + script, () -> x.runScript(n, script), () -> model.runScript(n, script));
    }

    private long group() {
        int s = random.nextInt(model.about(4) + 1);
        int r = random.nextInt(model.about(2) + 1);
        int t = random.nextInt(model.about(0) + 1);
        int w = random.nextInt(model.about(1) + 1);
        int small = random.nextInt(10);
        int any = random.nextInt(100);
        int[] groups = {
            random.nextInt(100000), 10000 + 1000 * r + 10 * s, 20000 + 100 * s, 30000 + 1000 * r + 100 * w,
            40000 + 100 * s + 10 * small, 50000 + any, 60000 + 100 * s + small, 70000 + 100 * s + any,
            80000 + 1000 * r + 100 * t, 90000 + 1000 * t + 100 * random.nextInt(7) + any,
        };
        return groups[random.nextInt(10)] + (random.nextInt(15) == 0 ? 1 : 0);
    }
}

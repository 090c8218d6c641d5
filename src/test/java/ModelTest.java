/** Long runs of calls, the same ones each time, on ZonePrint and PlainPrint: each answer and the state behind it. */
public final class ModelTest {
    private static final Checks checks = new Checks();
    private static final int[] FAR = {Integer.MIN_VALUE, -1, 32, 1000000, Integer.MAX_VALUE};

    /** The document promises nothing behind the 512th call. */
    private static final int MOST_CALLS = 512;
    /** No step makes more: nine orders of at most seven characters, ";" between them, and what stands round them. */
    private static final int MOST_OF_STEP = 80;

    private static long seed;
    /** Calls of the object that is looked at now. */
    private static int calls;

    public static void main(String[] args) {
        for (int run = 0; run < 240; run++) {
            seed = run * 7919L + 17;
            doRun(run);
        }
        checks.end();
    }

    private static void doRun(int run) {
        ZonePrint x = new ZonePrint();
        PlainPrint due = new PlainPrint();
        calls = 0;
        for (int step = 0; calls + MOST_OF_STEP <= MOST_CALLS; step++) {
            step("run " + run + ", step " + step + ": ", x, due);
            if (step % 6 == 5) {
                calls++;
                checks.same("run " + run + ", behind step " + step + ": digest()", x.digest(), due.digest());
            }
        }
    }

    /** The next number of a row that is the same in each run, 0 to below bound. */
    private static int next(int bound) {
        seed = seed * 6364136223846793005L + 1442695040888963407L;
        return (int) ((seed >>> 33) % bound);
    }

    /** A number from least to most, with the edges more often, and now and then one beside them. */
    private static int number(int least, int most) {
        switch (next(24)) {
            case 0: return least - 1;
            case 1: return most + 1;
            case 2: return FAR[next(FAR.length)];
            case 3: return least;
            case 4: return most;
            default: return least + next(most - least + 1);
        }
    }

    private static int someZone(PlainPrint due) {
        return number(0, Math.max(0, due.now.zones.size() - 1));
    }

    private static void same(String name, Checks.Call call, Checks.Call dueCall) {
        calls++;
        String got = Checks.outcome(call);
        String due = Checks.outcome(dueCall);
        checks.isTrue(name + " answered " + got + ", due is " + due, got.equals(due));
    }

    private static void step(String run, ZonePrint x, PlainPrint due) {
        int z = someZone(due);
        int o = someZone(due);
        switch (next(30)) {
            case 0, 1, 2 -> {
                int density = number(0, 24);
                int wanted = number(0, 10);
                same(run + "zone", () -> x.zone(density, wanted), () -> due.zone(density, wanted));
            }
            case 3 -> {
                int wanted = number(0, 10);
                same(run + "want", () -> x.want(z, wanted), () -> due.want(z, wanted));
            }
            case 4, 5, 6 -> same(run + "link", () -> x.link(z, o), () -> due.link(z, o));
            case 7 -> {
                int time = next(2) == 0 ? number(1, 2000) : number(1, 60);
                same(run + "expose", () -> x.expose(time), () -> due.expose(time));
            }
            case 8, 9 -> {
                int time = number(0, 999);
                same(run + "burn", () -> x.burn(z, time), () -> due.burn(z, time));
            }
            case 10 -> {
                int time = number(0, 999);
                same(run + "hold", () -> x.hold(z, time), () -> due.hold(z, time));
            }
            case 11 -> {
                int grade = number(0, 5);
                int speed = 10 + 43 * next(24);
                int chosen = next(6) == 0 ? number(10, 999) : speed;
                same(run + "paper", () -> x.paper(grade, chosen), () -> due.paper(grade, chosen));
            }
            case 12, 13, 14 -> same(run + "plan", x::plan, due::plan);
            case 15 -> {
                int spill = number(0, 50);
                same(run + "set", () -> x.set(spill), () -> due.set(spill));
            }
            case 16, 17, 18, 19, 20 -> texts(run, x, due);
            case 21, 22 -> same(run + "undo", x::undo, due::undo);
            default -> looks(run, x, due, z);
        }
    }

    private static void texts(String run, ZonePrint x, PlainPrint due) {
        if (next(12) == 0) {
            same(run + "clearBuffer", x::clearBuffer, due::clearBuffer);
        }
        if (next(12) == 0) {
            int code = number(33, 126);
            same(run + "append", () -> x.append(code), () -> due.append(code));
        }
        String text = someText();
        for (int place = 0; place < text.length(); place++) {
            int code = text.charAt(place);
            same(run + "append", () -> x.append(code), () -> due.append(code));
        }
        same(run + "firstError of " + due.buffer, x::firstError, due::firstError);
        String buffer = due.buffer;
        same(run + "run of " + buffer, x::run, due::run);
        if (!due.buffer.isEmpty() && next(4) != 0) {
            same(run + "clearBuffer", x::clearBuffer, due::clearBuffer);
        }
    }

    private static String someText() {
        StringBuilder text = new StringBuilder();
        int orders = 1 + next(9);
        for (int order = 0; order < orders; order++) {
            text.append(order == 0 ? "" : ";").append(someOrder());
        }
        if (next(3) == 0) {
            text.setCharAt(next(text.length()), ";=:zntbh0123456789~!".charAt(next(20)));
        }
        if (next(12) == 0) {
            text.setLength(next(text.length() + 1));
        }
        return text.toString();
    }

    private static String someOrder() {
        int edge = next(30) == 0 ? 1 : 0;
        switch (next(6)) {
            case 0:
            case 1:
                return "z" + next(25 + edge) + "=" + next(11 + edge);
            case 2:
                int one = next(7);
                return "n" + one + (one + 1 + next(7 - one) - edge);
            case 3:
                return "t" + (1 - edge + next(2000 + 2 * edge));
            case 4:
                return "b" + next(8 + edge) + ":" + next(1000 + edge);
            default:
                return "h" + next(8 + edge) + ":" + next(1000 + edge);
        }
    }

    private static void looks(String run, ZonePrint x, PlainPrint due, int z) {
        int what = number(0, 3);
        int time = number(1, 999);
        switch (next(9)) {
            case 0 -> {
                int property = number(0, 10);
                same(run + "zoneOf", () -> x.zoneOf(z, property), () -> due.zoneOf(z, property));
            }
            case 1 -> {
                int tone = number(1, 10);
                same(run + "mark", () -> x.mark(tone), () -> due.mark(tone));
            }
            case 2, 3 -> {
                int times = number(1, 9);
                same(run + "strip", () -> x.strip(z, time, times, what), () -> due.strip(z, time, times, what));
            }
            case 4 -> {
                int number = number(0, 11);
                same(run + "count", () -> x.count(number), () -> due.count(number));
            }
            case 5 -> {
                int other = number(1, 2000);
                int either = number(0, 1);
                same(run + "ifExposed", () -> x.ifExposed(other, either), () -> due.ifExposed(other, either));
            }
            case 6 -> {
                int either = number(0, 1);
                same(run + "ifBurned", () -> x.ifBurned(z, time, either), () -> due.ifBurned(z, time, either));
            }
            case 7 -> {
                int either = number(0, 1);
                same(run + "common", () -> x.common(either), () -> due.common(either));
            }
            default -> {
                same(run + "bestTime", x::bestTime, due::bestTime);
                same(run + "bestGrade", x::bestGrade, due::bestGrade);
                calls++;
                checks.same(run + "rightShare", x.rightShare(), due.rightShare());
            }
        }
    }
}

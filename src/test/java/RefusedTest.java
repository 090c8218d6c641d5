/**
 * The throws clauses of all promises, and "Exceptions": what is thrown beside each allowed range, which one is
 * thrown where several apply, and that a refused call leaves every answer as it was. Each refused call is made
 * on a print with nothing in it, on one with three zones, and on one where all is full, wherever it applies.
 */
public final class RefusedTest {
    private static final Class<IllegalArgumentException> IAE = IllegalArgumentException.class;
    private static final Class<IllegalStateException> ISE = IllegalStateException.class;
    private static final Class<IndexOutOfBoundsException> IOOBE = IndexOutOfBoundsException.class;

    private static final Checks checks = new Checks();

    public static void main(String[] args) {
        checks.test("the prints that are used here are as they should be", RefusedTest::prints);
        zones();
        times();
        texts();
        looks();
        wouldBe();
        checks.test("Exceptions: a refused call is not undone, the one before it is", RefusedTest::undoBehind);
        checks.test("Exceptions: many refused calls save nothing", RefusedTest::manyRefused);
        checks.end();
    }

    private static void prints() {
        int[][] due = {{0, 0, 0}, {3, 4, 4}, {8, 6, 60}};
        ZonePrint[] prints = {Prints.empty(), Prints.some(), Prints.full()};
        for (int place = 0; place < prints.length; place++) {
            checks.same("zones", prints[place].count(0), due[place][0]);
            checks.same("saved states", prints[place].count(11), due[place][1]);
            checks.same("no syntax error", prints[place].firstError(), due[place][2]);
            checks.same("characters", prints[place].clearBuffer(), due[place][2]);
        }
    }

    private static void zones() {
        checks.test("Promise 2: density below 0 or above 24, IllegalArgumentException", () -> {
            for (int density : outside(0, 24)) {
                always("zone(" + density + ", 5)", IAE, x -> x.zone(density, 5));
            }
        });
        checks.test("Promise 2: wanted below 0 or above 10, IllegalArgumentException", () -> {
            for (int wanted : outside(0, 10)) {
                always("zone(5, " + wanted + ")", IAE, x -> x.zone(5, wanted));
            }
            always("zone(25, 11)", IAE, x -> x.zone(25, 11));
        });
        checks.test("Promise 2: there are 8 zones, IllegalStateException", () -> {
            full("zone(0, 0)", ISE, x -> x.zone(0, 0));
            full("zone(24, 10)", ISE, x -> x.zone(24, 10));
        });
        checks.test("Promise 3: no such zone, IndexOutOfBoundsException, also with a wrong tone", () -> {
            noSuchZone("want", (x, zone) -> x.want(zone, 5));
            noSuchZone("want, and a tone of 11", (x, zone) -> x.want(zone, 11));
            noSuchZone("want, and a tone of -1", (x, zone) -> x.want(zone, -1));
        });
        checks.test("Promise 3: wanted below 0 or above 10, IllegalArgumentException", () -> {
            for (int wanted : outside(0, 10)) {
                withZones("want(0, " + wanted + ")", IAE, x -> x.want(0, wanted));
            }
        });
        checks.test("Promise 4: no such zone, IndexOutOfBoundsException, also if both are the same", () -> {
            noSuchZone("link, as the one,", (x, zone) -> x.link(zone, 0));
            noSuchZone("link, as the other,", (x, zone) -> x.link(0, zone));
            noSuchZone("link, as both,", (x, zone) -> x.link(zone, zone));
            noSuchZone("link, as the one beside another one,", (x, zone) -> x.link(zone, -7));
        });
        checks.test("Promise 4: both are the same, IllegalArgumentException", () -> {
            withZones("link(0, 0)", IAE, x -> x.link(0, 0));
            withZones("link(2, 2)", IAE, x -> x.link(2, 2));
            full("link(7, 7)", IAE, x -> x.link(7, 7));
        });
    }

    private static void times() {
        checks.test("Promise 5: time below 1 or above 2000, IllegalArgumentException", () -> {
            for (int time : outside(1, 2000)) {
                always("expose(" + time + ")", IAE, x -> x.expose(time));
            }
        });
        checks.test("Promise 6: no such zone, IndexOutOfBoundsException, also with a wrong time", () -> {
            noSuchZone("burn", (x, zone) -> x.burn(zone, 5));
            noSuchZone("burn, and a time of 1000", (x, zone) -> x.burn(zone, 1000));
            noSuchZone("burn, and a time of -1", (x, zone) -> x.burn(zone, -1));
        });
        checks.test("Promise 6: time below 0 or above 999, IllegalArgumentException", () -> {
            for (int time : outside(0, 999)) {
                withZones("burn(0, " + time + ")", IAE, x -> x.burn(0, time));
            }
        });
        checks.test("Promise 7: no such zone, IndexOutOfBoundsException, also with a wrong time", () -> {
            noSuchZone("hold", (x, zone) -> x.hold(zone, 5));
            noSuchZone("hold, and a time of 1000", (x, zone) -> x.hold(zone, 1000));
            noSuchZone("hold, and a time of -1", (x, zone) -> x.hold(zone, -1));
        });
        checks.test("Promise 7: time below 0 or above 999, IllegalArgumentException", () -> {
            for (int time : outside(0, 999)) {
                withZones("hold(0, " + time + ")", IAE, x -> x.hold(0, time));
            }
        });
        checks.test("Promise 8: grade below 0 or above 5, IllegalArgumentException", () -> {
            for (int grade : outside(0, 5)) {
                always("paper(" + grade + ", 100)", IAE, x -> x.paper(grade, 100));
            }
        });
        checks.test("Promise 8: speed below 10 or above 999, IllegalArgumentException", () -> {
            for (int speed : outside(10, 999)) {
                always("paper(2, " + speed + ")", IAE, x -> x.paper(2, speed));
            }
            always("paper(2, 0)", IAE, x -> x.paper(2, 0));
            always("paper(6, 9)", IAE, x -> x.paper(6, 9));
        });
        checks.test("Promise 10: spill below 0 or above 50, IllegalArgumentException", () -> {
            for (int spill : outside(0, 50)) {
                always("set(" + spill + ")", IAE, x -> x.set(spill));
            }
        });
    }

    private static void texts() {
        checks.test("Promise 11: code below 33 or above 126, IllegalArgumentException, also if it is full", () -> {
            for (int code : outside(33, 126)) {
                always("append(" + code + ")", IAE, x -> x.append(code));
            }
            always("append(0)", IAE, x -> x.append(0));
            always("append(256 + 'z')", IAE, x -> x.append(256 + 'z'));
            always("append(65536 + 'z')", IAE, x -> x.append(65536 + 'z'));
        });
        checks.test("Promise 11: the buffer has 60 characters, IllegalStateException", () -> {
            full("append(33)", ISE, x -> x.append(33));
            full("append('1')", ISE, x -> x.append('1'));
            full("append(126)", ISE, x -> x.append(126));
        });
        checks.test("Promise 14: the buffer is not a complete print, IllegalArgumentException", () -> {
            always("run()", IAE, ZonePrint::run);
            for (String text : new String[] {"b0:1;", "t9;x", "t9;t0", "t9;b0:", "b0:1;n1", "t2001", ";t9", "t9;;t9"}) {
                checks.refused("run() of " + text, () -> typed(Prints.some(), text), IAE, ZonePrint::run);
                checks.refused("run() of " + text, () -> typed(Prints.full(), text), IAE, ZonePrint::run);
            }
        });
        checks.test("Promise 15: no saved state, IllegalStateException", () -> {
            checks.refused("undo()", Prints::empty, ISE, ZonePrint::undo);
            checks.refused("undo() behind four", () -> allUndone(Prints.some()), ISE, ZonePrint::undo);
            checks.refused("undo() behind six", () -> allUndone(Prints.full()), ISE, ZonePrint::undo);
        });
    }

    private static void looks() {
        checks.test("Promise 16: no such zone, IndexOutOfBoundsException, also with a wrong property", () -> {
            noSuchZone("zoneOf", (x, zone) -> x.zoneOf(zone, 0));
            noSuchZone("zoneOf, of 11,", (x, zone) -> x.zoneOf(zone, 11));
            noSuchZone("zoneOf, of -1,", (x, zone) -> x.zoneOf(zone, -1));
        });
        checks.test("Promise 16: what is not 0 to 10, IllegalArgumentException", () -> {
            for (int what : outside(0, 10)) {
                withZones("zoneOf(0, " + what + ")", IAE, x -> x.zoneOf(0, what));
            }
        });
        checks.test("Promise 17: tone below 1 or above 10, IllegalArgumentException", () -> {
            for (int tone : outside(1, 10)) {
                always("mark(" + tone + ")", IAE, x -> x.mark(tone));
            }
        });
        checks.test("Promise 18: no such zone, IndexOutOfBoundsException, also with other wrong arguments", () -> {
            noSuchZone("strip", (x, zone) -> x.strip(zone, 10, 9, 0));
            noSuchZone("strip, from 0 on,", (x, zone) -> x.strip(zone, 0, 9, 0));
            noSuchZone("strip, of 10 times,", (x, zone) -> x.strip(zone, 10, 10, 0));
            noSuchZone("strip, asked for 4,", (x, zone) -> x.strip(zone, 10, 9, 4));
        });
        checks.test("Promise 18: first below 1 or above 999, IllegalArgumentException", () -> {
            for (int first : outside(1, 999)) {
                withZones("strip(0, " + first + ", 9, 0)", IAE, x -> x.strip(0, first, 9, 0));
            }
        });
        checks.test("Promise 18: times below 1 or above 9, IllegalArgumentException", () -> {
            for (int times : outside(1, 9)) {
                withZones("strip(0, 10, " + times + ", 3)", IAE, x -> x.strip(0, 10, times, 3));
            }
        });
        checks.test("Promise 18: what below 0 or above 3, IllegalArgumentException", () -> {
            for (int what : outside(0, 3)) {
                withZones("strip(0, 10, 9, " + what + ")", IAE, x -> x.strip(0, 10, 9, what));
            }
        });
        checks.test("Promise 19: what is not 0 to 11, IllegalArgumentException", () -> {
            for (int what : outside(0, 11)) {
                always("count(" + what + ")", IAE, x -> x.count(what));
            }
        });
    }

    private static void wouldBe() {
        checks.test("Promise 20: time below 1 or above 2000, IllegalArgumentException", () -> {
            for (int time : outside(1, 2000)) {
                always("ifExposed(" + time + ", 0)", IAE, x -> x.ifExposed(time, 0));
            }
        });
        checks.test("Promise 20: what is not 0 or 1, IllegalArgumentException", () -> {
            for (int what : outside(0, 1)) {
                always("ifExposed(100, " + what + ")", IAE, x -> x.ifExposed(100, what));
            }
        });
        checks.test("Promise 23: no such zone, IndexOutOfBoundsException, also with other wrong arguments", () -> {
            noSuchZone("ifBurned", (x, zone) -> x.ifBurned(zone, 5, 0));
            noSuchZone("ifBurned, with 1000,", (x, zone) -> x.ifBurned(zone, 1000, 0));
            noSuchZone("ifBurned, asked for 2,", (x, zone) -> x.ifBurned(zone, 5, 2));
        });
        checks.test("Promise 23: time below 0 or above 999, IllegalArgumentException", () -> {
            for (int time : outside(0, 999)) {
                withZones("ifBurned(0, " + time + ", 1)", IAE, x -> x.ifBurned(0, time, 1));
            }
        });
        checks.test("Promise 23: what is not 0 or 1, IllegalArgumentException", () -> {
            for (int what : outside(0, 1)) {
                withZones("ifBurned(0, 5, " + what + ")", IAE, x -> x.ifBurned(0, 5, what));
            }
        });
        checks.test("Promise 24: what is not 0 or 1, IllegalArgumentException", () -> {
            for (int what : outside(0, 1)) {
                always("common(" + what + ")", IAE, x -> x.common(what));
            }
        });
    }

    private static void undoBehind() {
        ZonePrint x = Prints.of("z6=5");
        x.expose(50);
        Checks.outcome(() -> x.expose(2001));
        Checks.outcome(() -> x.burn(0, 1000));
        checks.same("undo()", x.undo(), 1);
        checks.same("the time before expose(50)", x.count(1), 100);
    }

    private static void manyRefused() {
        ZonePrint x = Prints.full();
        for (int time = 0; time < 20; time++) {
            Checks.outcome(() -> x.zone(0, 0));
            Checks.outcome(() -> x.set(51));
            Checks.outcome(() -> x.link(0, 0));
            Checks.outcome(x::run);
        }
        checks.sameAnswers("eighty refused calls", x, Prints.full());
    }

    /** The numbers beside a range, and the farthest ones. */
    private static int[] outside(int least, int most) {
        return new int[] {least - 1, most + 1, Integer.MIN_VALUE, Integer.MAX_VALUE};
    }

    private interface ZoneCall {
        long answer(ZonePrint print, int zone);
    }

    /** 0, 3 and 8 are the first numbers that are missing; 32 is 0 again for a shift, and 256 for a byte. */
    private static void noSuchZone(String what, ZoneCall call) {
        for (int zone : new int[] {-1, 8, 32, 256, Integer.MIN_VALUE, Integer.MAX_VALUE}) {
            always(what + ", zone " + zone, IOOBE, x -> call.answer(x, zone));
        }
        for (int zone : new int[] {0, 7}) {
            checks.refused(what + ", zone " + zone + " of none", Prints::empty, IOOBE, x -> call.answer(x, zone));
        }
        for (int zone : new int[] {3, 7}) {
            checks.refused(what + ", zone " + zone + " of three", Prints::some, IOOBE, x -> call.answer(x, zone));
        }
    }

    private static void always(String what, Class<? extends RuntimeException> due, Checks.PrintCall call) {
        checks.refused(what + " with nothing in it", Prints::empty, due, call);
        withZones(what, due, call);
    }

    private static void withZones(String what, Class<? extends RuntimeException> due, Checks.PrintCall call) {
        checks.refused(what + " with three zones", Prints::some, due, call);
        full(what, due, call);
    }

    private static void full(String what, Class<? extends RuntimeException> due, Checks.PrintCall call) {
        checks.refused(what + " with all full", Prints::full, due, call);
    }

    private static ZonePrint typed(ZonePrint x, String text) {
        Checks.type(x, text);
        return x;
    }

    private static ZonePrint allUndone(ZonePrint x) {
        for (int undone = 0; undone < 6 && x.count(11) > 0; undone++) {
            x.undo();
        }
        return x;
    }
}

/** Promises 11 to 15: append, clearBuffer, firstError, run, undo. */
public final class TextsTest {
    private static final Class<IllegalArgumentException> IAE = IllegalArgumentException.class;
    private static final Class<IllegalStateException> ISE = IllegalStateException.class;

    private static final Checks checks = new Checks();

    public static void main(String[] args) {
        append();
        clearBuffer();
        firstErrorInZones();
        firstErrorInOthers();
        firstErrorInRows();
        runWhole();
        runStops();
        runIncomplete();
        undo();
        undoLeavesBuffer();
        undoRestoresAll();
        checks.end();
    }

    private static void append() {
        ZonePrint x = new ZonePrint();
        for (int code : new int[] {32, 127, 0, -1, 128, 256 + 'z', Integer.MIN_VALUE, Integer.MAX_VALUE}) {
            checks.thrown("11: code " + code, x, IAE, () -> x.append(code));
        }
        checks.same("11: the least code", x.append(33), 1);
        checks.same("11: the greatest code", x.append(126), 2);
        for (int length = 3; length <= 60; length++) {
            checks.same("11: length", x.append('a'), length);
        }
        checks.thrown("11: 61 characters", x, ISE, () -> x.append('a'));
        checks.thrown("11: 61 characters, and a wrong one", x, IAE, () -> x.append(32));
        checks.same("11: appending saves nothing", x.count(11), 0);
        checks.same("11: all stayed", x.clearBuffer(), 60);
        checks.same("11: there is room again", x.append('a'), 1);
    }

    private static void clearBuffer() {
        ZonePrint x = new ZonePrint();
        checks.same("12: empty", x.clearBuffer(), 0);
        Checks.type(x, "z0=0");
        checks.same("12: four", x.clearBuffer(), 4);
        checks.same("12: none is left", x.clearBuffer(), 0);
        checks.same("12: clearing saves nothing", x.count(11), 0);
    }

    /** A text that is a print up to due, but with the character at due no longer; complete if it can be run. */
    private static void error(String text, int due, boolean complete) {
        ZonePrint x = new ZonePrint();
        Checks.type(x, text);
        checks.same("13: firstError() of " + text, x.firstError(), due);
        checks.same("13: nothing changed by it", x.clearBuffer(), text.length());
        Checks.type(x, text);
        if (complete) {
            checks.isTrue("14: run() of " + text, x.run() >= 0);
            checks.same("14: the buffer is clear", x.clearBuffer(), 0);
            checks.same("14: saved as one call", x.count(11), 1);
        } else {
            checks.thrown("14: run() of " + text, x, IAE, x::run);
            checks.same("14: the buffer stays", x.clearBuffer(), text.length());
        }
    }

    private static void firstErrorInZones() {
        error("", 0, false);
        error("z", 1, false);
        error("z=", 1, false);
        error("z0", 2, false);
        error("z0=", 3, false);
        error("z0=0", 4, true);
        error("z00", 2, false);
        error("z01", 2, false);
        error("z24=10", 6, true);
        error("z25", 2, false);
        error("z29", 2, false);
        error("z30", 2, false);
        error("z9=9", 4, true);
        error("z10=1", 5, true);
        error("z19=1", 5, true);
        error("z240", 3, false);
        error("z123", 3, false);
        error("z1=00", 4, false);
        error("z1=01", 4, false);
        error("z1=11", 4, false);
        error("z1=20", 4, false);
        error("z1=100", 5, false);
        error("z1==", 3, false);
        error("z1:1", 2, false);
        error("z1;", 2, false);
        error("z1=;", 3, false);
        error("z-1", 1, false);
        error("Z1=1", 0, false);
        error("0", 0, false);
        error(";", 0, false);
        error("a", 0, false);
        error("=", 0, false);
    }

    private static void firstErrorInOthers() {
        error("n", 1, false);
        error("n0", 2, false);
        error("n01", 3, true);
        error("n00", 2, false);
        error("n10", 2, false);
        error("n67", 3, true);
        error("n7", 1, false);
        error("n8", 1, false);
        error("n68", 2, false);
        error("n07", 3, true);
        error("n012", 3, false);
        error("n0:1", 2, false);
        error("n0=1", 2, false);
        error("n0;", 2, false);
        error("t", 1, false);
        error("t0", 1, false);
        error("t1", 2, true);
        error("t9", 2, true);
        error("t2000", 5, true);
        error("t2001", 4, false);
        error("t2010", 4, false);
        error("t201", 4, true);
        error("t1999", 5, true);
        error("t10000", 5, false);
        error("t3000", 4, false);
        error("t999", 4, true);
        error("t=1", 1, false);
        error("t:1", 1, false);
        for (String letter : new String[] {"b", "h"}) {
            error(letter, 1, false);
            error(letter + "0", 2, false);
            error(letter + "0:", 3, false);
            error(letter + "0:0", 4, true);
            error(letter + "7:999", 6, true);
            error(letter + "8", 1, false);
            error(letter + "9", 1, false);
            error(letter + "00", 2, false);
            error(letter + "10", 2, false);
            error(letter + ":0", 1, false);
            error(letter + "0=0", 2, false);
            error(letter + "0:00", 4, false);
            error(letter + "0:01", 4, false);
            error(letter + "0:1000", 6, false);
            error(letter + "0:;", 3, false);
        }
    }

    private static void firstErrorInRows() {
        error("z0=0;", 5, false);
        error("z0=0;;", 5, false);
        error("z0=0;t", 6, false);
        error("z0=0;t1", 7, true);
        error("z0=0t1", 4, false);
        error("z0=1;z0=10;n01;t200;b0:9;h1:99", 30, true);
        error("n01n02", 3, false);
        error("t1;n7", 4, false);
        error("n06;n56;n7", 9, false);
        error("n06;b0:5;n17;h6:1", 17, true);
        error("t1;t1;t1;t1;t1;t1;t1;t1;t1;t1;t1;t1;t1;t1;t1;t1;t1;t1;t1;t1;", 60, false);
        error("t1;t1;t1;t1;t1;t1;t1;t1;t1;t1;t1;t1;t1;t1;t1;t1;t1;t1;t1;t11", 60, true);
        error("t1;t1;t1;t1;t1;t1;t1;t1;t1;t1;t1;t1;t1;t1;t1;t1;t1;t1;t1;t1x", 59, false);
        ZonePrint x = new ZonePrint();
        Checks.type(x, "z25=99");
        checks.same("13: the first one of several", x.firstError(), 2);
        checks.same("13: twice the same", x.firstError(), 2);
        x.clearBuffer();
        checks.same("13: none behind clearBuffer()", x.firstError(), 0);
    }

    private static void runWhole() {
        ZonePrint x = new ZonePrint();
        Checks.type(x, "z0=5;z24=10;n01;t2000;b0:999;h1:0;n01");
        checks.same("14: all seven", x.run(), 7);
        checks.same("14: the buffer is clear", x.firstError(), 0);
        checks.same("14: zones", x.count(0), 2);
        checks.same("14: density", x.zoneOf(1, 0), 24);
        checks.same("14: wanted", x.zoneOf(1, 1), 10);
        checks.same("14: time", x.count(1), 2000);
        checks.same("14: burn", x.zoneOf(0, 2), 999);
        checks.same("14: hold", x.zoneOf(1, 3), 0);
        checks.same("14: neighbours, though told twice", x.count(10), 1);
        checks.same("14: mask of the one", x.zoneOf(0, 7), 2);
        checks.same("14: mask of the other", x.zoneOf(1, 7), 1);
        checks.same("14: saved as one call", x.count(11), 1);
        Checks.type(x, "h1:33;b0:0");
        checks.same("14: two more", x.run(), 2);
        checks.same("14: hold", x.zoneOf(1, 3), 33);
        checks.same("14: burn", x.zoneOf(0, 2), 0);
        checks.same("14: undo", x.undo(), 1);
        checks.same("14: hold, undone", x.zoneOf(1, 3), 0);
        checks.same("14: undo", x.undo(), 0);
        checks.same("14: zones, undone", x.count(0), 0);
        checks.same("14: time, undone", x.count(1), 100);
        checks.thrown("14: the empty buffer", x, IAE, x::run);
    }

    private static void runStops() {
        ZonePrint x = new ZonePrint();
        Checks.type(x, "b0:1;z0=0");
        checks.same("14: no zone for b", x.run(), 0);
        checks.same("14: nothing is done behind it", x.count(0), 0);
        checks.same("14: saved, though none is done", x.count(11), 1);
        checks.same("14: the buffer is clear", x.clearBuffer(), 0);
        Checks.type(x, "z0=0;h1:1;t7");
        checks.same("14: no zone for h", x.run(), 1);
        checks.same("14: the time stays", x.count(1), 100);
        Checks.type(x, "t8;n01;t9");
        checks.same("14: no zone for n", x.run(), 1);
        checks.same("14: the time before it", x.count(1), 8);
        Checks.type(x, "z1=1;n12;t9");
        checks.same("14: no greater zone for n", x.run(), 1);
        checks.same("14: no neighbours", x.count(10), 0);
        Checks.type(x, "z2=1;z3=1;z4=1;z5=1;z6=1;z7=1;n67;z8=1;t9");
        checks.same("14: a ninth zone", x.run(), 7);
        checks.same("14: eight zones", x.count(0), 8);
        checks.same("14: the zones 6 and 7", x.zoneOf(6, 7), 128);
        checks.same("14: the time stays", x.count(1), 8);
        checks.same("14: saved states", x.count(11), 5);
    }

    private static void runIncomplete() {
        ZonePrint x = new ZonePrint();
        x.zone(0, 0);
        for (String text : new String[] {"t5;", "t5;b0:", "t5;n0", "t5;z", "t5;z1=1x", "t5;b0:5;n76"}) {
            Checks.type(x, text);
            checks.thrown("14: run() of " + text, x, IAE, x::run);
            checks.same("14: not even the first one is done", x.count(1), 100);
            checks.same("14: nothing is saved", x.count(11), 1);
        }
    }

    private static void undo() {
        ZonePrint x = new ZonePrint();
        checks.thrown("15: nothing saved", x, ISE, x::undo);
        for (int time = 1; time <= 6; time++) {
            x.expose(time);
            checks.same("15: saved states", x.count(11), time);
        }
        x.expose(7);
        x.expose(8);
        checks.same("15: at most six", x.count(11), 6);
        for (int left = 5; left >= 0; left--) {
            checks.same("15: left", x.undo(), left);
            checks.same("15: the time before it", x.count(1), left + 2);
        }
        checks.thrown("15: the older ones are dropped", x, ISE, x::undo);
        x.expose(50);
        x.expose(60);
        x.undo();
        x.expose(70);
        checks.same("15: undo", x.undo(), 1);
        checks.same("15: not the one that was undone", x.count(1), 50);
        checks.same("15: undo", x.undo(), 0);
        checks.same("15: the first", x.count(1), 2);
    }

    private static void undoLeavesBuffer() {
        ZonePrint x = new ZonePrint();
        Checks.type(x, "t55");
        x.zone(1, 1);
        x.append('5');
        x.undo();
        checks.same("15: the buffer is not undone", x.firstError(), 4);
        checks.same("15: it can be run", x.run(), 1);
        checks.same("15: with all of it", x.count(1), 555);
        Checks.type(x, "t1");
        x.undo();
        checks.same("15: neither is its clearing", x.clearBuffer(), 2);
    }

    private static void undoRestoresAll() {
        ZonePrint x = new ZonePrint();
        Checks.type(x, "z1=1;z2=2;n01;b0:9;h1:8;t7");
        x.run();
        x.undo();
        Checks.type(x, "z1=1;z2=2;n01;b0:9;h1:8;t7");
        x.run();
        long before = x.digest();
        Runnable[] changes = {
            () -> x.zone(5, 5), () -> x.want(0, 9), () -> x.link(0, 1), () -> x.expose(9), () -> x.burn(0, 8),
            () -> x.hold(1, 7), () -> x.paper(4, 44), () -> x.plan(), () -> x.set(44),
        };
        for (int change = 0; change < changes.length; change++) {
            changes[change].run();
            checks.isTrue("15: change " + change + " is seen", x.digest() != before);
            checks.same("15: one more is saved", x.count(11), 2);
            x.undo();
            checks.same("15: change " + change + " is undone", x.digest(), before);
        }
    }
}

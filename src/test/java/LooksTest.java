/** Promises 16 to 19: zoneOf, mark, strip, count. */
public final class LooksTest {
    private static final Class<IllegalArgumentException> IAE = IllegalArgumentException.class;
    private static final Class<IndexOutOfBoundsException> IOOBE = IndexOutOfBoundsException.class;

    private static final Checks checks = new Checks();

    public static void main(String[] args) {
        zoneOf();
        needs();
        mark();
        strip();
        stripThrows();
        count();
        checks.end();
    }

    private static void zoneOf() {
        ZonePrint x = new ZonePrint();
        checks.thrown("16: no zone", x, IOOBE, () -> x.zoneOf(0, 0));
        checks.thrown("16: no zone, and a wrong what", x, IOOBE, () -> x.zoneOf(0, 11));
        x.zone(6, 5);
        x.zone(3, 7);
        x.zone(0, 1);
        x.link(0, 1);
        x.link(0, 2);
        x.burn(0, 28);
        x.burn(1, 105);
        x.hold(0, 30);
        checks.thrown("16: zone 3", x, IOOBE, () -> x.zoneOf(3, 0));
        checks.thrown("16: zone -1", x, IOOBE, () -> x.zoneOf(-1, 0));
        checks.thrown("16: what 11", x, IAE, () -> x.zoneOf(0, 11));
        checks.thrown("16: what -1", x, IAE, () -> x.zoneOf(0, -1));
        // 100 less 30, with its burn of 28 and 10 of 105: 108, and 27000 of light.
        int[] due = {6, 5, 28, 30, 108, 27000, 5, 6, 101, 127, 10};
        for (int what = 0; what < due.length; what++) {
            checks.same("16: zoneOf(0, " + what + ")", x.zoneOf(0, what), due[what]);
        }
        int[] others = {3, 7, 105, 0, 207, 103500, 10, 1, 81, 100, 2};
        for (int what = 0; what < others.length; what++) {
            checks.same("16: zoneOf(1, " + what + ")", x.zoneOf(1, what), others[what]);
        }
        checks.same("16: looks save nothing", x.count(11), 6);
    }

    private static void needs() {
        ZonePrint x = new ZonePrint();
        // White up to below 10000, black from 80035 on: 1000 a tenth through density 0.
        checkNeed(x, 0, 0, 1, 9);
        checkNeed(x, 0, 10, 81, 9999);
        // 3.90625 a tenth through density 24: black needs more than 9999.
        checkNeed(x, 24, 10, ZonePrint.NONE, ZonePrint.NONE);
        checkNeed(x, 24, 5, 6452, 8129);
        x = new ZonePrint();
        x.paper(0, 999);
        // The last mark of it is 2064032, and 1000 a tenth come through density 0.
        checkNeed(x, 0, 10, 2065, 9999);
        x = new ZonePrint();
        x.paper(2, 10);
        checkNeed(x, 0, 0, ZonePrint.NONE, ZonePrint.NONE);
        checkNeed(x, 0, 1, 1, 1);
        checkNeed(x, 0, 2, ZonePrint.NONE, ZonePrint.NONE);
        checkNeed(x, 0, 4, 2, 2);
    }

    private static void checkNeed(ZonePrint x, int density, int wanted, int least, int greatest) {
        int zone = x.zone(density, wanted);
        checks.same("16: least need of " + density + ", " + wanted, x.zoneOf(zone, 8), least);
        checks.same("16: greatest need of " + density + ", " + wanted, x.zoneOf(zone, 9), greatest);
    }

    private static void mark() {
        ZonePrint x = new ZonePrint();
        checks.thrown("17: tone 0", x, IAE, () -> x.mark(0));
        checks.thrown("17: tone 11", x, IAE, () -> x.mark(11));
        checks.thrown("17: tone -1", x, IAE, () -> x.mark(-1));
        int[][] due = {
            {10000, 14000, 19600, 27440, 38416, 53782, 75294, 105411, 147575, 206605},
            {10000, 13200, 17424, 22999, 30358, 40072, 52895, 69821, 92163, 121655},
            {10000, 12600, 15876, 20003, 25203, 31755, 40011, 50413, 63520, 80035},
            {10000, 12000, 14400, 17280, 20736, 24883, 29859, 35830, 42996, 51595},
            {10000, 11600, 13456, 15608, 18105, 21001, 24361, 28258, 32779, 38023},
            {10000, 11200, 12544, 14049, 15734, 17622, 19736, 22104, 24756, 27726},
        };
        for (int grade = 0; grade < due.length; grade++) {
            x.paper(grade, 100);
            for (int tone = 1; tone <= 10; tone++) {
                checks.same("17: mark(" + tone + ") of grade " + grade, x.mark(tone), due[grade][tone - 1]);
            }
        }
        x.paper(3, 999);
        checks.same("17: mark(1) of 999", x.mark(1), 99900);
        checks.same("17: mark(2) of 999", x.mark(2), 119880);
        x.paper(5, 10);
        checks.same("17: mark(1) of 10", x.mark(1), 1000);
        checks.same("17: mark(2) of 10", x.mark(2), 1120);
    }

    private static void strip() {
        ZonePrint x = new ZonePrint();
        x.zone(6, 5);
        // From 10 on: 10, 12, 15, 20, 25, 31, 40, 50, 63; from 100 on: 100, 126, 159, 200.
        checkStrip(x, 10, 9, ZonePrint.NONE, ZonePrint.NONE, 0, 2);
        checkStrip(x, 100, 4, 126, 1, 1, 7);
        checkStrip(x, 101, 1, 101, 0, 1, 5);
        checkStrip(x, 100, 1, ZonePrint.NONE, ZonePrint.NONE, 0, 4);
        x.want(0, 0);
        checkStrip(x, 10, 9, 10, 0, 6, 2);
        x.want(0, 1);
        checkStrip(x, 10, 9, 40, 6, 2, 2);
        x.want(0, 2);
        checkStrip(x, 10, 9, 63, 8, 1, 2);
        x.want(0, 10);
        // 7 * 4 * 159 / 100 is 44, 999 * 4 * 159 / 100 is 6353.
        checkStrip(x, 7, 9, ZonePrint.NONE, ZonePrint.NONE, 0, 1);
        checkStrip(x, 999, 9, 999, 0, 9, 10);
        checkStrip(x, 1, 1, ZonePrint.NONE, ZonePrint.NONE, 0, 0);
        // Tone 7 is passed by between 126 (6) and 159; the strip asks for the tone or a greater one.
        x.want(0, 7);
        checkStrip(x, 63, 9, 200, 5, 1, 10);
        x.burn(0, 999);
        x.expose(2000);
        checks.same("18: burn and time for all count not", x.strip(0, 10, 9, 3), 2);
        // 24 and 24 * 126 / 100 = 30, 24 * 159 / 100 = 38, then 48: first doubled, then this.
        ZonePrint y = new ZonePrint();
        y.zone(0, 10);
        checks.same("18: 23 doubled twice, then 126", y.strip(0, 23, 9, 0), 92);
        y.zone(0, 6);
        checks.same("18: 23 doubled, then 126 hundredths: 57", y.strip(1, 23, 5, 0), 36);
        y.want(1, 8);
        checks.same("18: 23 doubled, then 126 hundredths: 57", y.strip(1, 23, 5, 0), 57);
    }

    private static void checkStrip(ZonePrint x, int first, int times, int time, int number, int hits, int last) {
        String name = "18: strip(0, " + first + ", " + times + ", ";
        checks.same(name + "0)", x.strip(0, first, times, 0), time);
        checks.same(name + "1)", x.strip(0, first, times, 1), number);
        checks.same(name + "2)", x.strip(0, first, times, 2), hits);
        checks.same(name + "3)", x.strip(0, first, times, 3), last);
    }

    private static void stripThrows() {
        ZonePrint x = new ZonePrint();
        checks.thrown("18: no zone", x, IOOBE, () -> x.strip(0, 1, 1, 0));
        checks.thrown("18: no zone, and all wrong", x, IOOBE, () -> x.strip(0, 0, 0, 4));
        x.zone(0, 0);
        checks.thrown("18: zone 1", x, IOOBE, () -> x.strip(1, 1, 1, 0));
        checks.thrown("18: zone -1", x, IOOBE, () -> x.strip(-1, 1, 1, 0));
        int[][] wrong = {
            {0, 1, 0}, {1000, 1, 0}, {-1, 1, 0}, {1, 0, 0}, {1, 10, 0}, {1, -1, 0}, {1, 1, -1}, {1, 1, 4},
            {Integer.MAX_VALUE, 1, 0}, {1, Integer.MAX_VALUE, 0}, {1, 1, Integer.MAX_VALUE},
        };
        for (int[] row : wrong) {
            checks.thrown("18: " + row[0] + ", " + row[1] + ", " + row[2], x, IAE,
                () -> x.strip(0, row[0], row[1], row[2]));
        }
    }

    private static void count() {
        ZonePrint x = new ZonePrint();
        checks.thrown("19: what 12", x, IAE, () -> x.count(12));
        checks.thrown("19: what -1", x, IAE, () -> x.count(-1));
        Checks.type(x, "z0=10;z6=4;z6=5;z3=6;z24=10;z6=4;n01;n12;n04;h0:9");
        x.run();
        Checks.type(x, "b4:5;h4:6;b3:7;t100");
        x.run();
        x.paper(2, 100);
        // Lights: 92000 and (5 * 10 / 100) 0; 25000; 25000; 53500; some 390.
        int[] due = {6, 100, 2, 100, 3, 2, 1, 12, 15, 1, 3, 3};
        for (int what = 0; what < due.length; what++) {
            checks.same("19: count(" + what + ")", x.count(what), due[what]);
        }
        x.paper(4, 555);
        checks.same("19: the grade", x.count(2), 4);
        checks.same("19: the speed", x.count(3), 555);
        checks.same("19: saved states", x.count(11), 4);
        ZonePrint y = new ZonePrint();
        y.paper(2, 10);
        y.zone(0, 0);
        checks.same("19: white through nothing needs no time", y.count(9), 1);
        y.want(0, 1);
        checks.same("19: tone 1 needs one", y.count(9), 0);
    }
}

/** Promises 5 to 10: expose, burn, hold, paper, plan, set, and the light and the times that they rest on. */
public final class TimesTest {
    private static final Class<IllegalArgumentException> IAE = IllegalArgumentException.class;
    private static final Class<IndexOutOfBoundsException> IOOBE = IndexOutOfBoundsException.class;

    private static final Checks checks = new Checks();

    public static void main(String[] args) {
        lights();
        expose();
        burn();
        hold();
        halfTimeRoundsDown();
        spill();
        paper();
        planByHand();
        planMiddle();
        planEdges();
        planWithNeighbours();
        set();
        checks.end();
    }

    private static void lights() {
        // 100 tenths: 100 * P, halved, divided by 100.
        int[] densities = {0, 1, 2, 3, 4, 5, 6, 22, 23, 24};
        int[] due = {100000, 79370, 63000, 50000, 39685, 31500, 25000, 620, 492, 390};
        for (int k = 0; k < densities.length; k++) {
            ZonePrint x = new ZonePrint();
            x.zone(densities[k], 5);
            checks.same("light through " + densities[k], x.zoneOf(0, 5), due[k]);
        }
        // 3 * 79370 = 238110; 119055, 59527, 29763, 14881, 7440, 3720, 1860; then 18.
        ZonePrint x = new ZonePrint();
        x.zone(22, 5);
        x.expose(3);
        checks.same("light, rounded down each time", x.zoneOf(0, 5), 18);
    }

    private static void expose() {
        ZonePrint x = new ZonePrint();
        for (int time : new int[] {0, -1, 2001, Integer.MIN_VALUE, Integer.MAX_VALUE}) {
            checks.thrown("5: time " + time, x, IAE, () -> x.expose(time));
        }
        checks.same("5: without zones", x.expose(1), 0);
        x.zone(0, 5);
        x.zone(3, 3);
        // Tone 5 is 25203 to 31754: 26 to 31 through density 0; tone 3 is 15876 to 20002: 32 to 40 through 3.
        checks.same("5: expose(25)", x.expose(25), 0);
        checks.same("5: expose(26)", x.expose(26), 1);
        checks.same("5: expose(31)", x.expose(31), 1);
        checks.same("5: expose(32)", x.expose(32), 1);
        checks.same("5: expose(41)", x.expose(41), 0);
        x.want(1, 2);
        // Tone 2 is 12600 to 15875: 26 to 31 through density 3.
        checks.same("5: expose(26), both", x.expose(26), 2);
        checks.same("5: expose(2000)", x.expose(2000), 0);
        checks.same("5: the time for all", x.count(1), 2000);
        checks.same("5: undo", x.undo(), 5);
        checks.same("5: the time for all, undone", x.count(1), 26);
    }

    private static void burn() {
        ZonePrint x = new ZonePrint();
        checks.thrown("6: no zone", x, IOOBE, () -> x.burn(0, 0));
        checks.thrown("6: no zone, and a wrong time", x, IOOBE, () -> x.burn(0, 1000));
        x.zone(6, 5);
        x.zone(0, 5);
        checks.thrown("6: zone 2", x, IOOBE, () -> x.burn(2, 0));
        checks.thrown("6: zone -1", x, IOOBE, () -> x.burn(-1, 0));
        checks.thrown("6: time 1000", x, IAE, () -> x.burn(0, 1000));
        checks.thrown("6: time -1", x, IAE, () -> x.burn(0, -1));
        // 250 a tenth: tone 4 at 100 (25000), tone 5 at 101 (25250), tone 6 at 128 (32000).
        checks.same("6: burn(0, 0)", x.burn(0, 0), 4);
        checks.same("6: burn(0, 1)", x.burn(0, 1), 5);
        checks.same("6: burn(0, 27)", x.burn(0, 27), 5);
        checks.same("6: burn(0, 28)", x.burn(0, 28), 6);
        checks.same("6: its time", x.zoneOf(0, 4), 128);
        checks.same("6: burn(0, 999)", x.burn(0, 999), 10);
        checks.same("6: its burn", x.zoneOf(0, 2), 999);
        checks.same("6: the other burn", x.zoneOf(1, 2), 0);
        checks.same("6: undo", x.undo(), 5);
        checks.same("6: its burn, undone", x.zoneOf(0, 2), 28);
    }

    private static void hold() {
        ZonePrint x = new ZonePrint();
        checks.thrown("7: no zone", x, IOOBE, () -> x.hold(0, 0));
        checks.thrown("7: no zone, and a wrong time", x, IOOBE, () -> x.hold(0, -1));
        x.zone(3, 5);
        checks.thrown("7: zone 1", x, IOOBE, () -> x.hold(1, 0));
        checks.thrown("7: zone -1", x, IOOBE, () -> x.hold(-1, 0));
        checks.thrown("7: time 1000", x, IAE, () -> x.hold(0, 1000));
        checks.thrown("7: time -1", x, IAE, () -> x.hold(0, -1));
        // 500 a tenth: tone 7 at 100 (50000), tone 6 at 80 (40000), tone 4 at 50 (25000).
        checks.same("7: hold(0, 0)", x.hold(0, 0), 7);
        checks.same("7: hold(0, 20)", x.hold(0, 20), 6);
        checks.same("7: hold(0, 50)", x.hold(0, 50), 4);
        checks.same("7: hold(0, 51), half the time stays", x.hold(0, 51), 4);
        checks.same("7: its time", x.zoneOf(0, 4), 50);
        checks.same("7: hold(0, 999)", x.hold(0, 999), 4);
        checks.same("7: its hold", x.zoneOf(0, 3), 999);
        checks.same("7: its time", x.zoneOf(0, 4), 50);
        x.burn(0, 7);
        checks.same("7: a burn comes behind the half", x.zoneOf(0, 4), 57);
        x.expose(2000);
        checks.same("7: a hold below the half", x.zoneOf(0, 4), 1008);
        x.undo();
        x.undo();
        checks.same("7: undo", x.undo(), 3);
        checks.same("7: its hold, undone", x.zoneOf(0, 3), 51);
    }

    private static void halfTimeRoundsDown() {
        ZonePrint x = new ZonePrint();
        x.zone(0, 0);
        x.expose(7);
        x.hold(0, 5);
        checks.same("7: half of 7", x.zoneOf(0, 4), 3);
        x.expose(1);
        checks.same("7: half of 1", x.zoneOf(0, 4), 0);
        checks.same("7: no light", x.zoneOf(0, 5), 0);
    }

    private static void spill() {
        ZonePrint x = new ZonePrint();
        for (int zone = 0; zone < 4; zone++) {
            x.zone(6, 5);
        }
        x.link(0, 1);
        x.link(0, 2);
        x.burn(1, 19);
        x.burn(2, 19);
        x.burn(3, 999);
        checks.same("each burn is divided alone", x.zoneOf(0, 10), 2);
        checks.same("time with spill", x.zoneOf(0, 4), 102);
        checks.same("none from itself", x.zoneOf(1, 10), 0);
        checks.same("none from a zone that is no neighbour", x.zoneOf(3, 10), 0);
        x.burn(0, 999);
        checks.same("onto its neighbour", x.zoneOf(1, 10), 99);
        x.set(50);
        checks.same("half of it", x.zoneOf(1, 10), 499);
        checks.same("half of both", x.zoneOf(0, 10), 18);
        x.set(0);
        checks.same("nothing spills", x.zoneOf(1, 10), 0);
        checks.same("only its own burn", x.zoneOf(0, 4), 1099);
    }

    private static void paper() {
        ZonePrint x = new ZonePrint();
        int[][] wrong = {{-1, 100}, {6, 100}, {2, 9}, {2, 1000}, {2, -100}, {Integer.MAX_VALUE, 100}};
        for (int[] pair : wrong) {
            checks.thrown("8: " + pair[0] + ", " + pair[1], x, IAE, () -> x.paper(pair[0], pair[1]));
        }
        x.zone(0, 10);
        x.zone(9, 2);
        // The lights are 100000 and 12500. Grade 5: marks 10000, 11200, 12544 and so on to some 27700.
        checks.same("8: paper(5, 100)", x.paper(5, 100), 2);
        // Grade 0: marks 10000, 14000 and so on to some 206000.
        checks.same("8: paper(0, 100)", x.paper(0, 100), 0);
        checks.same("8: paper(5, 999), only the first mark is passed", x.paper(5, 999), 0);
        checks.same("8: the grade", x.count(2), 5);
        checks.same("8: the speed", x.count(3), 999);
        checks.same("8: paper(0, 10)", x.paper(0, 10), 1);
        checks.same("8: the first mark", x.mark(1), 1000);
        checks.same("8: undo", x.undo(), 5);
        checks.same("8: the grade, undone", x.count(2), 5);
        checks.same("8: the marks, undone", x.mark(1), 99900);
    }

    private static void planByHand() {
        ZonePrint x = new ZonePrint();
        checks.same("9: without zones", x.plan(), 0);
        checks.same("9: the time stays", x.count(1), 100);
        checks.same("9: it is saved", x.count(11), 1);
        x.zone(0, 5);
        x.zone(6, 5);
        x.zone(3, 3);
        x.burn(0, 500);
        x.hold(2, 500);
        // The least times are 26, 101, 32: the time for all is 32. Zone 0 is 1 too long for 31,
        // zone 1 is 69 short of 101, zone 2 is right.
        checks.same("9: plan()", x.plan(), 3);
        checks.same("9: the time for all", x.count(1), 32);
        int[][] due = {{0, 1}, {69, 0}, {0, 0}};
        for (int zone = 0; zone < 3; zone++) {
            checks.same("9: burn of " + zone, x.zoneOf(zone, 2), due[zone][0]);
            checks.same("9: hold of " + zone, x.zoneOf(zone, 3), due[zone][1]);
        }
        checks.same("9: undo", x.undo(), 5);
        checks.same("9: undone: time", x.count(1), 100);
        checks.same("9: undone: burn", x.zoneOf(0, 2), 500);
        checks.same("9: undone: hold", x.zoneOf(2, 3), 500);
    }

    private static void planMiddle() {
        ZonePrint x = new ZonePrint();
        x.zone(6, 5);
        x.zone(0, 5);
        x.plan();
        checks.same("9: of two the lesser", x.count(1), 26);
        x.zone(3, 3);
        x.zone(12, 5);
        x.plan();
        checks.same("9: of 26, 32, 101 and 404 the second", x.count(1), 32);
        x.zone(24, 10);
        x.plan();
        checks.same("9: a zone that needs no time does not count", x.count(9), 1);
        checks.same("9: still of four", x.count(1), 32);
        ZonePrint y = new ZonePrint();
        y.zone(15, 9);
        y.paper(2, 200);
        // Mark 9 is some 127000 then, of which density 15 lets 31 a tenth through.
        checks.isTrue("9: it needs more than 2000", y.zoneOf(0, 8) > 2000);
        y.plan();
        checks.same("9: at most 2000", y.count(1), 2000);
        checks.same("9: no burn brings it", y.zoneOf(0, 2), 0);
        y.want(0, 0);
        y.paper(2, 100);
        y.plan();
        checks.same("9: white needs 1", y.count(1), 1);
    }

    private static void planEdges() {
        // Speed 10: already the time 1 through density 0 gives tone 1, so that white needs no time;
        // but the half of 1 is 0, and a hold of 1 brings it.
        ZonePrint x = new ZonePrint();
        x.zone(0, 0);
        x.paper(2, 10);
        x.expose(1);
        checks.same("9: no time for white", x.zoneOf(0, 8), ZonePrint.NONE);
        checks.same("9: plan() holds it back to no time", x.plan(), 1);
        checks.same("9: the hold", x.zoneOf(0, 3), 1);
        checks.same("9: the time for all stays", x.count(1), 1);
        x.expose(2);
        checks.same("9: half of 2 is too long", x.plan(), 0);
        checks.same("9: no hold", x.zoneOf(0, 3), 0);
        // The marks are 1000, 1260, 1587, 1999: tone 1 at 1 and tone 4 at 2, none between them.
        ZonePrint y = new ZonePrint();
        y.zone(0, 2);
        y.paper(2, 10);
        y.expose(1);
        checks.same("9: a tone that is jumped over", y.zoneOf(0, 8), ZonePrint.NONE);
        checks.same("9: no burn brings it", y.plan(), 0);
        checks.same("9: no burn", y.zoneOf(0, 2), 0);
        // 6250 a hundred tenths: 50413 wants 807 of them, 63520 wants 1017, and 999 is the longest burn.
        ZonePrint z = new ZonePrint();
        z.zone(0, 0);
        z.zone(12, 8);
        z.zone(12, 0);
        z.plan();
        checks.same("9: the time is 1", z.count(1), 1);
        checks.same("9: least need of 8", z.zoneOf(1, 8), 807);
        checks.same("9: its burn", z.zoneOf(1, 2), 806);
        z.want(1, 9);
        checks.same("9: least need of 9", z.zoneOf(1, 8), 1017);
        z.plan();
        checks.same("9: 1016 is too long", z.zoneOf(1, 2), 0);
        checkShortestBurn();
        checkLongestBurn();
        checkLongestHold();
    }

    private static void checkShortestBurn() {
        // The marks are 1100, 1386, 1746, 2199: white at 1, tone 3 at 2.
        ZonePrint x = new ZonePrint();
        x.zone(0, 0);
        x.zone(0, 3);
        x.zone(0, 0);
        x.paper(2, 11);
        checks.same("9: all three", x.plan(), 3);
        checks.same("9: the time is 1", x.count(1), 1);
        checks.same("9: the need is 2", x.zoneOf(1, 8), 2);
        checks.same("9: a burn of 1", x.zoneOf(1, 2), 1);
    }

    private static void checkLongestBurn() {
        ZonePrint x = new ZonePrint();
        x.zone(0, 0);
        x.zone(10, 1);
        x.zone(0, 0);
        // Mark 1 is 99200: 99200 * 100 * 8 / 79370 is a little less than 1000.
        x.paper(2, 992);
        x.plan();
        checks.same("9: the time is 1", x.count(1), 1);
        checks.same("9: the need is 1000", x.zoneOf(1, 8), 1000);
        checks.same("9: a burn of 999", x.zoneOf(1, 2), 999);
        x.paper(2, 993);
        x.plan();
        checks.same("9: the need is 1001", x.zoneOf(1, 8), 1001);
        checks.same("9: no burn of 1000", x.zoneOf(1, 2), 0);
    }

    private static void checkLongestHold() {
        ZonePrint x = new ZonePrint();
        x.zone(10, 0);
        x.zone(13, 1);
        x.zone(13, 1);
        // Mark 1 is 99400: 99400 * 100 * 8 / 79370 is 1001.9, so that white lasts up to 1001.
        x.paper(2, 994);
        x.plan();
        checks.same("9: the time is 2000", x.count(1), 2000);
        checks.same("9: the need is up to 1001", x.zoneOf(0, 9), 1001);
        checks.same("9: a hold of 999", x.zoneOf(0, 3), 999);
        x.paper(2, 993);
        x.plan();
        checks.same("9: the time is 2000", x.count(1), 2000);
        checks.same("9: the need is up to 1000", x.zoneOf(0, 9), 1000);
        checks.same("9: no hold of 1000", x.zoneOf(0, 3), 0);
    }

    private static void planWithNeighbours() {
        ZonePrint x = new ZonePrint();
        x.zone(0, 5);
        x.zone(6, 5);
        x.zone(3, 3);
        x.link(0, 1);
        x.link(1, 2);
        // As above, but the burn of 69 spills 6 onto zone 0, whose turn is over, and onto zone 2:
        // 38 is in its range still.
        checks.same("9: plan()", x.plan(), 2);
        checks.same("9: hold of zone 0", x.zoneOf(0, 3), 1);
        checks.same("9: time of zone 0", x.zoneOf(0, 4), 37);
        checks.same("9: burn of zone 1", x.zoneOf(1, 2), 69);
        checks.same("9: time of zone 2", x.zoneOf(2, 4), 38);
        x.set(20);
        // 13 spill now: 45 is 5 too long for zone 2, and it is held back when its turn comes.
        checks.same("9: plan() with more spill", x.plan(), 2);
        checks.same("9: hold of zone 2", x.zoneOf(2, 3), 5);
        checks.same("9: zone 2 is right", x.zoneOf(2, 6), 3);
        checks.same("9: zone 0 is not", x.zoneOf(0, 6), 7);
    }

    private static void set() {
        ZonePrint x = new ZonePrint();
        for (int spill : new int[] {-1, 51, Integer.MIN_VALUE, Integer.MAX_VALUE}) {
            checks.thrown("10: spill " + spill, x, IAE, () -> x.set(spill));
        }
        checks.same("10: set(0)", x.set(0), 10);
        checks.same("10: set(50)", x.set(50), 0);
        checks.same("10: set(50) again", x.set(50), 50);
        checks.same("10: saved states", x.count(11), 3);
        x.undo();
        x.undo();
        checks.same("10: undone", x.set(7), 0);
    }
}

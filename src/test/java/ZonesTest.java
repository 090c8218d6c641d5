/** Promises 1 to 4: a new object, zone, want, link. */
public final class ZonesTest {
    private static final Class<IllegalArgumentException> IAE = IllegalArgumentException.class;
    private static final Class<IllegalStateException> ISE = IllegalStateException.class;
    private static final Class<IndexOutOfBoundsException> IOOBE = IndexOutOfBoundsException.class;

    private static final Checks checks = new Checks();

    public static void main(String[] args) {
        newObject();
        zoneNumbers();
        zoneEdges();
        zoneStartsPlain();
        want();
        link();
        checks.end();
    }

    private static void newObject() {
        ZonePrint x = new ZonePrint();
        int[] due = {0, 100, 2, 100, 0, 0, 0, 0, 0, 0, 0, 0};
        for (int what = 0; what < due.length; what++) {
            checks.same("1: count(" + what + ")", x.count(what), due[what]);
        }
        checks.same("1: firstError()", x.firstError(), 0);
        checks.same("1: clearBuffer()", x.clearBuffer(), 0);
        checks.same("1: set(10), the spill at first", x.set(10), 10);
        checks.thrown("1: zoneOf(0, 0)", new ZonePrint(), IOOBE, () -> new ZonePrint().zoneOf(0, 0));
        ZonePrint y = new ZonePrint();
        checks.thrown("1: undo()", y, ISE, y::undo);
        ZonePrint z = new ZonePrint();
        z.zone(3, 4);
        checks.same("1: objects share nothing", y.count(0), 0);
    }

    private static void zoneNumbers() {
        ZonePrint x = new ZonePrint();
        for (int number = 0; number < 8; number++) {
            checks.same("2: zone " + number, x.zone(number * 3, number), number);
            checks.same("2: zones", x.count(0), number + 1);
        }
        checks.thrown("2: a ninth zone", x, ISE, () -> x.zone(0, 0));
        checks.thrown("2: a ninth zone out of range", x, IAE, () -> x.zone(25, 0));
        checks.thrown("2: a ninth zone out of range", x, IAE, () -> x.zone(0, -1));
        for (int number = 0; number < 8; number++) {
            checks.same("2: density", x.zoneOf(number, 0), number * 3);
            checks.same("2: wanted", x.zoneOf(number, 1), number);
        }
        checks.same("2: undone", x.undo(), 5);
        checks.same("2: there is room again", x.zone(1, 1), 7);
    }

    private static void zoneEdges() {
        ZonePrint x = new ZonePrint();
        int[] wrongDensities = {-1, 25, Integer.MIN_VALUE, Integer.MAX_VALUE};
        int[] wrongTones = {-1, 11, Integer.MIN_VALUE, Integer.MAX_VALUE};
        for (int density : wrongDensities) {
            checks.thrown("2: density " + density, x, IAE, () -> x.zone(density, 5));
        }
        for (int wanted : wrongTones) {
            checks.thrown("2: wanted " + wanted, x, IAE, () -> x.zone(5, wanted));
        }
        checks.same("2: least density and tone", x.zone(0, 0), 0);
        checks.same("2: greatest density and tone", x.zone(24, 10), 1);
        checks.same("2: saved states", x.count(11), 2);
    }

    private static void zoneStartsPlain() {
        ZonePrint x = new ZonePrint();
        x.zone(1, 1);
        x.zone(2, 2);
        x.link(0, 1);
        x.burn(1, 77);
        x.hold(1, 7);
        for (int undone = 0; undone < 4; undone++) {
            x.undo();
        }
        checks.same("2: the same number again", x.zone(4, 4), 1);
        checks.same("2: burn at first", x.zoneOf(1, 2), 0);
        checks.same("2: hold at first", x.zoneOf(1, 3), 0);
        checks.same("2: neighbours at first", x.zoneOf(1, 7), 0);
        checks.same("2: neighbours of the other", x.zoneOf(0, 7), 0);
    }

    private static void want() {
        ZonePrint x = new ZonePrint();
        checks.thrown("3: no zone", x, IOOBE, () -> x.want(0, 5));
        checks.thrown("3: no zone, and a wrong tone", x, IOOBE, () -> x.want(0, 11));
        x.zone(6, 5);
        checks.thrown("3: zone 1", x, IOOBE, () -> x.want(1, 5));
        checks.thrown("3: zone -1", x, IOOBE, () -> x.want(-1, 5));
        checks.thrown("3: wanted 11", x, IAE, () -> x.want(0, 11));
        checks.thrown("3: wanted -1", x, IAE, () -> x.want(0, -1));
        checks.same("3: want(0, 0)", x.want(0, 0), 5);
        checks.same("3: want(0, 10)", x.want(0, 10), 0);
        checks.same("3: want(0, 10) again", x.want(0, 10), 10);
        checks.same("3: wanted", x.zoneOf(0, 1), 10);
        checks.same("3: saved, also the one that changed nothing", x.count(11), 4);
        x.undo();
        x.undo();
        checks.same("3: undone", x.zoneOf(0, 1), 0);
    }

    private static void link() {
        ZonePrint x = new ZonePrint();
        checks.thrown("4: no zones", x, IOOBE, () -> x.link(0, 1));
        checks.thrown("4: no zones, and both the same", x, IOOBE, () -> x.link(0, 0));
        x.zone(0, 5);
        x.zone(3, 5);
        x.zone(6, 5);
        checks.thrown("4: the other is missing", x, IOOBE, () -> x.link(0, 3));
        checks.thrown("4: the one is missing", x, IOOBE, () -> x.link(3, 0));
        checks.thrown("4: -1", x, IOOBE, () -> x.link(-1, 0));
        checks.thrown("4: 0 and -1", x, IOOBE, () -> x.link(0, -1));
        checks.thrown("4: far away", x, IOOBE, () -> x.link(32, 0));
        checks.thrown("4: both the same", x, IAE, () -> x.link(2, 2));
        checks.same("4: link(0, 2)", x.link(0, 2), 1);
        checks.same("4: link(2, 1)", x.link(2, 1), 1);
        checks.same("4: mask of 0", x.zoneOf(0, 7), 4);
        checks.same("4: mask of 1", x.zoneOf(1, 7), 4);
        checks.same("4: mask of 2", x.zoneOf(2, 7), 3);
        checks.same("4: pairs", x.count(10), 2);
        checks.same("4: link(2, 0) parts them", x.link(2, 0), 0);
        checks.same("4: mask of 0", x.zoneOf(0, 7), 0);
        checks.same("4: mask of 2", x.zoneOf(2, 7), 2);
        checks.same("4: undo", x.undo(), 5);
        checks.same("4: mask of 2, undone", x.zoneOf(2, 7), 3);
        checks.same("4: link(1, 2) parts the others", x.link(1, 2), 0);
        checks.same("4: mask of 1", x.zoneOf(1, 7), 0);
        checks.same("4: mask of 2", x.zoneOf(2, 7), 1);
    }
}

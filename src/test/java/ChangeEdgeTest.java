/** Promises 1 to 8 and 10: the least and the greatest arguments, the first and the last zone, none and all eight. */
public final class ChangeEdgeTest {
    private static final Checks checks = new Checks();

    private static final String EIGHT = "z0=0;z1=1;z2=2;z3=3;z4=4;z5=5;z6=6;z7=7";

    public static void main(String[] args) {
        newObject();
        zone();
        want();
        link();
        expose();
        burnAndHold();
        paper();
        set();
        checks.end();
    }

    private static void newObject() {
        checks.test("Promise 1: without zones", () -> {
            ZonePrint x = new ZonePrint();
            int[] due = {0, 100, 2, 100, 0, 0, 0, 0, 0, 0, 0, 0};
            for (int what = 0; what <= 11; what++) {
                checks.same("count(" + what + ")", x.count(what), due[what]);
            }
            checks.isTrue("zoneOf(0, 0)", Checks.outcome(() -> x.zoneOf(0, 0)).equals("IndexOutOfBoundsException"));
            checks.same("ifExposed(100, 0)", x.ifExposed(100, 0), 0);
            checks.same("ifExposed(100, 1)", x.ifExposed(100, 1), 0);
            checks.same("bestTime()", x.bestTime(), 10);
            checks.same("bestGrade()", x.bestGrade(), 0);
            checks.same("common(0)", x.common(0), ZonePrint.NONE);
            checks.same("common(1)", x.common(1), ZonePrint.NONE);
            checks.same("rightShare()", x.rightShare(), 1.0);
        });
        checks.test("Promise 1: with an empty buffer and no saved state", () -> {
            ZonePrint x = new ZonePrint();
            checks.same("firstError()", x.firstError(), 0);
            checks.same("clearBuffer()", x.clearBuffer(), 0);
            checks.isTrue("run()", Checks.outcome(x::run).equals("IllegalArgumentException"));
            checks.isTrue("undo()", Checks.outcome(x::undo).equals("IllegalStateException"));
        });
        checks.test("Promise 1: one object has nothing of another one", () -> {
            ZonePrint x = Prints.full();
            ZonePrint y = new ZonePrint();
            x.plan();
            checks.sameAnswers("a new object beside a full one", y, new ZonePrint());
        });
    }

    private static void zone() {
        checks.test("Promise 2: returns its number, 0 to 7", () -> {
            ZonePrint x = new ZonePrint();
            for (int number = 0; number <= 7; number++) {
                checks.same("zone()", x.zone(number, number), number);
                checks.same("zones", x.count(0), number + 1);
            }
        });
        checks.test("Promise 2: density 0 and 24, wanted 0 and 10", () -> {
            ZonePrint x = new ZonePrint();
            int number = 0;
            for (int density : new int[] {0, 24}) {
                for (int wanted : new int[] {0, 10}) {
                    checks.same("zone()", x.zone(density, wanted), number);
                    checks.same("its density", x.zoneOf(number, 0), density);
                    checks.same("its wanted tone", x.zoneOf(number, 1), wanted);
                    number++;
                }
            }
        });
        checks.test("Promise 2: there are at most 8 zones, also with another print full", () -> {
            ZonePrint x = Prints.of(EIGHT);
            checks.isTrue("a ninth", Checks.outcome(() -> x.zone(0, 0)).equals("IllegalStateException"));
            checks.same("zones", x.count(0), 8);
            checks.same("of another one", new ZonePrint().zone(0, 0), 0);
        });
        checks.test("Promise 2: throws IllegalArgumentException first", () -> {
            ZonePrint x = Prints.of(EIGHT);
            checks.isTrue("density 25", Checks.outcome(() -> x.zone(25, 0)).equals("IllegalArgumentException"));
            checks.isTrue("wanted -1", Checks.outcome(() -> x.zone(0, -1)).equals("IllegalArgumentException"));
        });
    }

    private static void want() {
        checks.test("Promise 3: wanted 0 and 10, on the first and on the last zone", () -> {
            ZonePrint x = Prints.of(EIGHT);
            checks.same("want(0, 10)", x.want(0, 10), 0);
            checks.same("want(0, 0)", x.want(0, 0), 10);
            checks.same("want(7, 0)", x.want(7, 0), 7);
            checks.same("want(7, 10)", x.want(7, 10), 0);
            checks.same("want(7, 10) again", x.want(7, 10), 10);
            checks.same("zone 0", x.zoneOf(0, 1), 0);
            checks.same("zone 7", x.zoneOf(7, 1), 10);
            for (int zone = 1; zone <= 6; zone++) {
                checks.same("zone " + zone, x.zoneOf(zone, 1), zone);
            }
        });
    }

    private static void link() {
        checks.test("Promise 4: all pairs of eight zones, made and parted", () -> {
            ZonePrint x = Prints.of(EIGHT);
            int pairs = 0;
            for (int one = 0; one <= 7; one++) {
                for (int other = one + 1; other <= 7; other++) {
                    checks.same("link(" + other + ", " + one + ")", x.link(other, one), 1);
                    pairs++;
                    checks.same("pairs", x.count(10), pairs);
                }
            }
            for (int zone = 0; zone <= 7; zone++) {
                checks.same("all but itself", x.zoneOf(zone, 7), 255 - (1 << zone));
            }
            for (int one = 0; one <= 7; one++) {
                for (int other = one + 1; other <= 7; other++) {
                    checks.same("link(" + one + ", " + other + ") parts them", x.link(one, other), 0);
                    pairs--;
                    checks.same("pairs", x.count(10), pairs);
                }
            }
            for (int zone = 0; zone <= 7; zone++) {
                checks.same("none", x.zoneOf(zone, 7), 0);
            }
        });
        checks.test("Promise 4: of two zones only these", () -> {
            ZonePrint x = Prints.of(EIGHT);
            checks.same("link(0, 7)", x.link(0, 7), 1);
            int[] due = {128, 0, 0, 0, 0, 0, 0, 1};
            for (int zone = 0; zone <= 7; zone++) {
                checks.same("zone " + zone, x.zoneOf(zone, 7), due[zone]);
            }
        });
    }

    private static void expose() {
        checks.test("Promise 5: the times 1 and 2000", () -> {
            ZonePrint x = Prints.of("z0=0;z0=10;z24=0;z24=10");
            // 1000 and 3 of light at 1, 2000000 and 7812 at 2000; the first mark is 10000.
            checks.same("expose(1)", x.expose(1), 2);
            checks.same("its time", x.count(1), 1);
            checks.same("time of a zone", x.zoneOf(3, 4), 1);
            checks.same("expose(2000)", x.expose(2000), 2);
            checks.same("its time", x.count(1), 2000);
            checks.same("time of a zone", x.zoneOf(3, 4), 2000);
        });
        checks.test("Promise 5: none right without zones, and all of eight", () -> {
            ZonePrint x = new ZonePrint();
            checks.same("without zones", x.expose(26), 0);
            for (int zone = 1; zone <= 8; zone++) {
                x.zone(0, 5);
                checks.same("of " + zone, x.expose(26), zone);
            }
            checks.same("none of eight", x.expose(25), 0);
        });
    }

    private static void burnAndHold() {
        checks.test("Promise 6: the burns 0 and 999, on the first and on the last zone", () -> {
            ZonePrint x = Prints.of("z6=0;z6=0;z6=0;z6=0;z6=0;z6=0;z6=0;z6=0");
            // 250 a tenth: 25000 is tone 4, 274750 is black.
            for (int zone : new int[] {0, 7}) {
                checks.same("burn of 999", x.burn(zone, 999), 10);
                checks.same("its burn", x.zoneOf(zone, 2), 999);
                checks.same("its time", x.zoneOf(zone, 4), 1099);
                checks.same("burn of 0", x.burn(zone, 0), 4);
                checks.same("its burn", x.zoneOf(zone, 2), 0);
                checks.same("burn of 1", x.burn(zone, 1), 5);
            }
            checks.same("the burns of all", x.count(7), 2);
        });
        checks.test("Promise 6: a burn takes the place of the one before", () -> {
            ZonePrint x = Prints.of("z6=0");
            x.burn(0, 500);
            checks.same("burn(0, 7)", x.burn(0, 7), 5);
            checks.same("its time", x.zoneOf(0, 4), 107);
        });
        checks.test("Promise 7: the holds 0 and 999, on the first and on the last zone", () -> {
            ZonePrint x = Prints.of("z6=0;z6=0;z6=0;z6=0;z6=0;z6=0;z6=0;z6=0");
            // 12500 of light at the half of 100 is tone 1, below 12600.
            for (int zone : new int[] {0, 7}) {
                checks.same("hold of 999", x.hold(zone, 999), 1);
                checks.same("its hold", x.zoneOf(zone, 3), 999);
                checks.same("its time", x.zoneOf(zone, 4), 50);
                checks.same("hold of 0", x.hold(zone, 0), 4);
                checks.same("its hold", x.zoneOf(zone, 3), 0);
                checks.same("hold of 49", x.hold(zone, 49), 2);
                checks.same("hold of 50", x.hold(zone, 50), 1);
                checks.same("hold of 51", x.hold(zone, 51), 1);
            }
            checks.same("the holds of all", x.count(8), 102);
        });
        checks.test("Promise 7: a hold that is longer than half is kept, and counts for a longer time", () -> {
            ZonePrint x = Prints.of("z6=0;h0:300");
            checks.same("half of 100", x.zoneOf(0, 4), 50);
            x.expose(1000);
            checks.same("1000 less 300", x.zoneOf(0, 4), 700);
        });
    }

    private static void paper() {
        checks.test("Promise 8: the grades 0 and 5, the speeds 10 and 999", () -> {
            ZonePrint x = Prints.of("z0=0;z0=10");
            // 100000 of light: 20651 is the last mark of the first paper, 99900 the first one of the last two.
            checks.same("paper(0, 10)", x.paper(0, 10), 1);
            checks.same("the last mark", x.mark(10), 20651);
            checks.same("paper(5, 10)", x.paper(5, 10), 1);
            checks.same("paper(5, 999)", x.paper(5, 999), 0);
            checks.same("its tone", x.zoneOf(0, 6), 1);
            checks.same("paper(0, 999)", x.paper(0, 999), 0);
            checks.same("the grade", x.count(2), 0);
            checks.same("the speed", x.count(3), 999);
        });
        checks.test("Promise 8: none right without zones, and all of eight", () -> {
            ZonePrint x = new ZonePrint();
            checks.same("without zones", x.paper(5, 10), 0);
            for (int zone = 1; zone <= 8; zone++) {
                x.zone(0, 10);
                checks.same("of " + zone, x.paper(5, 10), zone);
            }
        });
    }

    private static void set() {
        checks.test("Promise 10: 0 and 50, and the previous one", () -> {
            ZonePrint x = new ZonePrint();
            checks.same("set(50)", x.set(50), 10);
            checks.same("set(0)", x.set(0), 50);
            checks.same("set(0) again", x.set(0), 0);
            checks.same("set(1)", x.set(1), 0);
            checks.same("set(49)", x.set(49), 1);
            checks.same("set(10)", x.set(10), 49);
        });
    }
}

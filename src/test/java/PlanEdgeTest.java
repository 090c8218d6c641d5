/** "Plans", and promise 9: the boundary cases of a plan, sentence by sentence. */
public final class PlanEdgeTest {
    private static final Checks checks = new Checks();

    public static void main(String[] args) {
        cleared();
        middle();
        burns();
        holds();
        turns();
        returns();
        checks.end();
    }

    /** Plans the print, and compares how many are right, the time for all, and each burn and hold. */
    private static void planned(ZonePrint x, int right, int time, int[] burns, int[] holds) {
        checks.same("plan()", x.plan(), right);
        checks.same("the time for all", x.count(1), time);
        checks.same("zones", x.count(0), burns.length);
        for (int zone = 0; zone < burns.length; zone++) {
            checks.same("burn of " + zone, x.zoneOf(zone, 2), burns[zone]);
            checks.same("hold of " + zone, x.zoneOf(zone, 3), holds[zone]);
        }
    }

    private static int[] row(int... numbers) {
        return numbers;
    }

    private static void cleared() {
        checks.test("Plans: all burns and holds become 0, also of zones that were right with them", () -> {
            // Both are right at 26 only without them; the third one needs no time.
            ZonePrint x = Prints.of("z0=5;z0=5;z24=10;n01;b0:999;h0:9;b1:5;h1:999;b2:7;h2:8");
            planned(x, 2, 26, row(0, 0, 0), row(0, 0, 0));
            // 30 less 9 and 5 more make 26.
            ZonePrint y = Prints.of("z0=5;t30;b0:5;h0:9");
            checks.same("right before", y.count(4), 1);
            planned(y, 1, 26, row(0), row(0));
        });
        checks.test("Plans: the needs are those without burns and holds", () -> {
            ZonePrint x = Prints.of("z6=5;z6=5;z6=5;n01;n02;n12;b0:999;b1:999;b2:999;t2000");
            planned(x, 3, 101, row(0, 0, 0), row(0, 0, 0));
        });
    }

    private static void middle() {
        checks.test("Plans: the middle one of the least times; of an even number the lesser one of both", () -> {
            // The least times for the tones 1 to 8 through 0 are 10, 13, 16, 21, 26, 32, 41, 51.
            int[] wanteds = {5, 1, 8, 3, 7, 2, 6, 4};
            int[] due = {26, 10, 26, 16, 26, 16, 26, 21};
            ZonePrint x = new ZonePrint();
            for (int zone = 0; zone < wanteds.length; zone++) {
                x.zone(0, wanteds[zone]);
                x.expose(777);
                x.plan();
                checks.same("the time for " + (zone + 1) + " zones", x.count(1), due[zone]);
            }
        });
        checks.test("Plans: least times that are the same count each", () -> {
            ZonePrint x = Prints.of("z0=8;z0=5;z0=5;z0=5;z0=9");
            x.plan();
            checks.same("of 26, 26, 26, 51, 64", x.count(1), 26);
            x.want(1, 8);
            x.want(2, 9);
            x.plan();
            checks.same("of 26, 51, 51, 64, 64", x.count(1), 51);
        });
        checks.test("Plans: only zones count that need any", () -> {
            ZonePrint x = Prints.of("z24=10;z0=7;z24=10;z0=5;z0=6;z24=10;z24=10;z24=10");
            x.plan();
            checks.same("of 26, 32, 41", x.count(1), 32);
            ZonePrint y = Prints.of("z24=10;z0=6;z0=5");
            y.plan();
            checks.same("of 26, 32", y.count(1), 26);
        });
        checks.test("Plans: at most 2000", () -> {
            planned(Prints.of("z19=2", 0, 177), 1, 1999, row(0), row(0));
            planned(Prints.of("z9=10", 0, 121), 1, 2000, row(0), row(0));
            // The need begins at 2001.
            planned(Prints.of("z5=10", 0, 305), 1, 2000, row(1), row(0));
            // 9999 is the only need, and much too long.
            planned(Prints.of("z22=1", 0, 620), 0, 2000, row(0), row(0));
        });
        checks.test("Plans: the middle one is taken first, then it is at most 2000", () -> {
            ZonePrint x = Prints.of("z24=5;z0=0;z24=5");
            checks.same("the need", x.zoneOf(0, 8), 6452);
            x.plan();
            checks.same("of 1, 6452, 6452", x.count(1), 2000);
            x.want(2, 0);
            x.plan();
            checks.same("of 1, 1, 6452", x.count(1), 1);
        });
        checks.test("Plans: the time stays if no zone needs any", () -> {
            for (int time : new int[] {1, 100, 1234, 2000}) {
                ZonePrint x = Prints.of("z24=10;z24=9;t" + time);
                checks.same("zones without", x.count(9), 2);
                planned(x, 0, time, row(0, 0), row(0, 0));
            }
            // The marks are 1000, 1260, 1587, 1999, and the tone 2 is jumped over; 25 is still much too dark.
            planned(Prints.of("z0=2;t50", 2, 10), 0, 50, row(0), row(0));
        });
        checks.test("Plans: the time stays without zones", () -> {
            for (int time : new int[] {1, 100, 2000}) {
                ZonePrint x = new ZonePrint();
                x.expose(time);
                planned(x, 0, time, row(), row());
                checks.same("saved, though nothing is changed", x.count(11), 2);
            }
        });
    }

    private static void burns() {
        checks.test("Plans: a burn is the least one of those with which the zone is right", () -> {
            // 101 to 127 are needed, and 32 is the time.
            planned(Prints.of("z0=6;z6=5;z0=6"), 3, 32, row(0, 69, 0), row(0, 0, 0));
        });
        checks.test("Plans: the least burn is 1", () -> {
            // The marks are 1100, 1386, 1746, 2199: white at 1, tone 3 at 2.
            planned(Prints.of("z0=0;z0=3;z0=0", 2, 11), 3, 1, row(0, 1, 0), row(0, 0, 0));
        });
        checks.test("Plans: the greatest burn is 999", () -> {
            ZonePrint x = Prints.of("z0=0;z13=10;z0=0", 0, 24);
            checks.same("the need", x.zoneOf(1, 8), 1000);
            planned(x, 3, 1, row(0, 999, 0), row(0, 0, 0));
            ZonePrint y = Prints.of("z0=0;z18=4;z0=0", 0, 57);
            checks.same("the need", y.zoneOf(1, 8), 1001);
            planned(y, 2, 1, row(0, 0, 0), row(0, 0, 0));
        });
        checks.test("Plans: if no burn makes it right, it stays 0", () -> {
            // Tone 1 at the time 1, tone 4 at 2: the tone 2 is jumped over.
            planned(Prints.of("z0=1;z0=2;z0=1", 2, 10), 2, 1, row(0, 0, 0), row(0, 0, 0));
            // Black needs more than 9999.
            planned(Prints.of("z0=0;z24=10;z0=0"), 2, 1, row(0, 0, 0), row(0, 0, 0));
        });
    }

    private static void holds() {
        checks.test("Plans: a hold is the least one of those with which the zone is right", () -> {
            // 26 to 31 are needed, and 51 is the time.
            planned(Prints.of("z0=8;z0=5;z0=8"), 3, 51, row(0, 0, 0), row(0, 20, 0));
        });
        checks.test("Plans: the least hold is 1", () -> {
            planned(Prints.of("z3=3;z0=5;z3=3"), 3, 32, row(0, 0, 0), row(0, 1, 0));
        });
        checks.test("Plans: the greatest hold is 999", () -> {
            // Mark 1 is 99400: white lasts up to 1001 through 10, and 13 needs more than 2000.
            ZonePrint x = Prints.of("z10=0;z13=1;z13=1", 2, 994);
            checks.same("the need", x.zoneOf(0, 9), 1001);
            checks.same("plan()", x.plan(), 3);
            checks.same("the time for all", x.count(1), 2000);
            checks.same("its hold", x.zoneOf(0, 3), 999);
            checks.same("its time", x.zoneOf(0, 4), 1001);
            ZonePrint y = Prints.of("z10=0;z13=1;z13=1", 2, 993);
            checks.same("the need", y.zoneOf(0, 9), 1000);
            checks.same("plan()", y.plan(), 2);
            checks.same("the time for all", y.count(1), 2000);
            checks.same("its hold", y.zoneOf(0, 3), 0);
        });
        checks.test("Plans: a hold brings half of the time for all, and no less", () -> {
            // 80 is needed, and is the half of 160, and of 161.
            planned(Prints.of("z12=1;z6=3;z12=1"), 3, 160, row(0, 0, 0), row(0, 80, 0));
            planned(Prints.of("z3=10;z6=3;z3=10"), 3, 161, row(0, 0, 0), row(0, 81, 0));
            // 100 is needed, and the half of 202 is 101.
            planned(Prints.of("z9=5;z6=4;z9=5"), 2, 202, row(0, 0, 0), row(0, 0, 0));
        });
        checks.test("Plans: the half of 1 is 0, and white", () -> {
            planned(Prints.of("z0=0;t1", 2, 10), 1, 1, row(0), row(1));
            planned(Prints.of("z0=0;t2", 2, 10), 0, 2, row(0), row(0));
        });
        checks.test("Plans: if no hold makes it right, it stays 0", () -> {
            // Tone 4 at the time 2, tone 1 at 1: the tone 2 is jumped over.
            planned(Prints.of("z0=4;z0=2;z0=4", 2, 10), 2, 2, row(0, 0, 0), row(0, 0, 0));
            // 13 is the half of 26: tone 2, and 1 is wanted.
            planned(Prints.of("z0=5;z0=1;z0=5"), 2, 26, row(0, 0, 0), row(0, 0, 0));
        });
    }

    private static void turns() {
        checks.test("Plans: a zone that is right when its turn comes stays as it is", () -> {
            // 100 is the burn of zone 1, of which 10 come onto zone 2: 10 to 12 are its need.
            ZonePrint x = Prints.of("z0=0;z6=5;z0=1;n12;z0=0;z0=0");
            planned(x, 5, 1, row(0, 100, 0, 0, 0), row(0, 0, 0, 0, 0));
            checks.same("its time", x.zoneOf(2, 4), 11);
        });
        checks.test("Plans: what earlier burns spill counts, what later ones spill does not", () -> {
            // Zone 1 needs 81 to 100: a burn of 80, of which 40 come onto zone 2; it needs 101, a burn of 60,
            // of which 30 come back: 111 is too long for zone 1, whose turn is over.
            ZonePrint x = Prints.of("z0=0;z6=4;z6=5;z0=0;z0=0;n12");
            x.set(50);
            planned(x, 4, 1, row(0, 80, 60, 0, 0), row(0, 0, 0, 0, 0));
            checks.same("its time", x.zoneOf(1, 4), 111);
            x.set(10);
            planned(x, 5, 1, row(0, 80, 92, 0, 0), row(0, 0, 0, 0, 0));
        });
        checks.test("Plans: the turns come by ascending numbers", () -> {
            // As above, but the one that wants more comes first.
            ZonePrint x = Prints.of("z0=0;z6=5;z6=4;z0=0;z0=0;n12");
            x.set(50);
            planned(x, 5, 1, row(0, 100, 30, 0, 0), row(0, 0, 0, 0, 0));
        });
        checks.test("Plans: old burns of zones whose turn comes later do not spill any more", () -> {
            ZonePrint x = Prints.of("z0=5;z0=5;n01;b1:999;h0:5");
            planned(x, 2, 26, row(0, 0), row(0, 0));
        });
        checks.test("Plans: a hold against what spills goes no farther than half of the time for all", () -> {
            // 69 on zone 0: 34 come onto zone 1, whose time is 66 then; it needs 32 to 40, or 41 to 50.
            ZonePrint x = Prints.of("z6=5;z3=3;z3=3;z3=3;n01");
            x.set(50);
            planned(x, 3, 32, row(69, 0, 0, 0), row(0, 0, 0, 0));
            x.want(1, 4);
            planned(x, 4, 32, row(69, 0, 0, 0), row(0, 16, 0, 0));
            checks.same("its time", x.zoneOf(1, 4), 50);
        });
    }

    private static void returns() {
        checks.test("Promise 9: returns how many zones are right then, and is undoable", () -> {
            ZonePrint x = Prints.of("z0=0;z6=4;z6=5;z0=0;z0=0;n12;b0:3;h4:2;t55");
            x.set(50);
            long before = x.digest();
            checks.same("plan()", x.plan(), 4);
            checks.same("right", x.count(4), 4);
            checks.same("saved states", x.count(11), 3);
            checks.same("undo()", x.undo(), 2);
            checks.same("digest() behind it", x.digest(), before);
        });
        checks.test("Promise 9: all of eight zones", () -> {
            ZonePrint x = Prints.of("z0=0;z0=0;z0=0;z0=0;z0=0;z0=0;z0=0;z0=0");
            checks.same("plan()", x.plan(), 8);
            checks.same("the time for all", x.count(1), 1);
        });
        checks.test("Promise 9: a second plan changes nothing", () -> {
            ZonePrint x = Prints.of("z0=5;z6=5;z3=3;z12=8;n01;n13");
            int right = x.plan();
            int[] first = {x.count(1), x.count(7), x.count(8)};
            checks.same("plan() again", x.plan(), right);
            checks.same("the time for all", x.count(1), first[0]);
            checks.same("the burns", x.count(7), first[1]);
            checks.same("the holds", x.count(8), first[2]);
        });
    }
}

/** Promises 16 to 19: the boundary cases of zoneOf, mark, strip and count. */
public final class LookEdgeTest {
    private static final Checks checks = new Checks();

    private static final String ALL_LINKED = "n01;n02;n03;n04;n05;n06;n07;n12;n13;n14;n15;n16;n17;n23";
    private static final String REST_LINKED = "n24;n25;n26;n27;n34;n35;n36;n37;n45;n46;n47;n56;n57;n67";

    public static void main(String[] args) {
        zoneOf();
        mark();
        strip();
        count();
        checks.end();
    }

    /** Eight zones, each of which is every other one's neighbour. */
    private static ZonePrint eightLinked(int density, int wanted) {
        ZonePrint x = new ZonePrint();
        for (int zone = 0; zone < 8; zone++) {
            x.zone(density, wanted);
        }
        for (String text : new String[] {ALL_LINKED, REST_LINKED}) {
            Checks.type(x, text);
            x.run();
        }
        return x;
    }

    private static void zoneOf() {
        checks.test("Promise 16: each property, 0 to 10, of the first and of the last zone of eight", () -> {
            ZonePrint x = Prints.of("z6=5;z0=0;z0=0;z0=0;z0=0;z0=0;z0=0;z24=10;n07;n06");
            Checks.type(x, "b0:28;h0:30;b6:105;b7:999;h7:999");
            x.run();
            // 100 less 30, 28 and 10 and 99 more: 207, and 250 of light a tenth.
            int[] first = {6, 5, 28, 30, 207, 51750, 8, 192, 101, 127, 109};
            // The half of 100, 999 and 2 more: 1051, and 3.9 of light a tenth. Black needs more than 9999.
            int[] last = {24, 10, 999, 999, 1051, 4105, 0, 1, ZonePrint.NONE, ZonePrint.NONE, 2};
            for (int what = 0; what <= 10; what++) {
                checks.same("zoneOf(0, " + what + ")", x.zoneOf(0, what), first[what]);
                checks.same("zoneOf(7, " + what + ")", x.zoneOf(7, what), last[what]);
            }
        });
        checks.test("Promise 16: each property of the only zone, that has nothing", () -> {
            ZonePrint x = Prints.of("z0=0");
            int[] due = {0, 0, 0, 0, 100, 100000, 10, 0, 1, 9, 0};
            for (int what = 0; what <= 10; what++) {
                checks.same("zoneOf(0, " + what + ")", x.zoneOf(0, what), due[what]);
            }
        });
        checks.test("Promise 16: the mask of no neighbours, and of seven", () -> {
            ZonePrint x = eightLinked(0, 0);
            ZonePrint y = Prints.of("z0=0;z0=0");
            checks.same("none", y.zoneOf(1, 7), 0);
            for (int zone = 0; zone < 8; zone++) {
                checks.same("all but " + zone, x.zoneOf(zone, 7), 255 - (1 << zone));
            }
        });
        checks.test("Promise 16: NONE for both without any needs, not for one alone", () -> {
            ZonePrint x = Prints.of("z0=0;z0=1;z0=2;z24=10;z24=0", 2, 10);
            // The marks are 1000, 1260, 1587, 1999; black comes from 7990 on, 3.9 of light in a tenth.
            int[][] due = {{-1, -1}, {1, 1}, {-1, -1}, {2046, 9999}, {1, 255}};
            for (int zone = 0; zone < due.length; zone++) {
                checks.same("the least of " + zone, x.zoneOf(zone, 8), due[zone][0]);
                checks.same("the greatest of " + zone, x.zoneOf(zone, 9), due[zone][1]);
            }
        });
    }

    private static void mark() {
        checks.test("Promise 17: the tones 1 and 10", () -> {
            ZonePrint x = new ZonePrint();
            checks.same("mark(1)", x.mark(1), 10000);
            checks.same("mark(10)", x.mark(10), 80035);
            x.paper(5, 10);
            checks.same("mark(1)", x.mark(1), 1000);
            // 1000, 1120, 1254, 1404, 1572, 1760, 1971, 2207, 2471.
            checks.same("mark(9)", x.mark(9), 2471);
            checks.same("mark(10)", x.mark(10), 2767);
        });
        checks.test("Promise 17: the least light with this tone", () -> {
            // 100000 of light: the mark of a zone's tone is at most that, the next one is more.
            for (int grade = 0; grade <= 5; grade++) {
                for (int speed = 20; speed <= 999; speed += 89) {
                    ZonePrint x = Prints.of("z0=5", grade, speed);
                    int tone = x.zoneOf(0, 6);
                    checks.isTrue("mark(" + tone + ")", tone == 0 || x.mark(tone) <= 100000);
                    checks.isTrue("mark(" + (tone + 1) + ")", tone == 10 || x.mark(tone + 1) > 100000);
                }
            }
        });
    }

    private static void strip() {
        checks.test("Promise 18: one time, and nine of them", () -> {
            // Through 6, from 10 on: the tones 0, 0, 0, 0, 0, 0, 1, 1, 2.
            stripOf(Prints.of("z6=1"), 10, 1, ZonePrint.NONE, ZonePrint.NONE, 0, 0);
            stripOf(Prints.of("z6=1"), 10, 6, ZonePrint.NONE, ZonePrint.NONE, 0, 0);
            stripOf(Prints.of("z6=1"), 10, 7, 40, 6, 1, 1);
            stripOf(Prints.of("z6=1"), 10, 8, 40, 6, 2, 1);
            stripOf(Prints.of("z6=1"), 10, 9, 40, 6, 2, 2);
            stripOf(Prints.of("z6=2"), 10, 8, ZonePrint.NONE, ZonePrint.NONE, 0, 1);
            stripOf(Prints.of("z6=2"), 10, 9, 63, 8, 1, 2);
            stripOf(Prints.of("z6=3"), 10, 9, ZonePrint.NONE, ZonePrint.NONE, 0, 2);
        });
        checks.test("Promise 18: the first times 1 and 999", () -> {
            stripOf(Prints.of("z0=0"), 1, 1, 1, 0, 1, 0);
            stripOf(Prints.of("z0=0"), 1, 9, 1, 0, 9, 0);
            stripOf(Prints.of("z0=1"), 1, 9, ZonePrint.NONE, ZonePrint.NONE, 0, 0);
            stripOf(Prints.of("z0=10"), 999, 1, 999, 0, 1, 10);
            stripOf(Prints.of("z0=10"), 999, 9, 999, 0, 9, 10);
            // 6353 through 24 is 24816 of light, below 25203.
            stripOf(Prints.of("z24=4"), 999, 9, 6353, 8, 1, 4);
        });
        checks.test("Promise 18: white is wanted from the first time on", () -> {
            stripOf(Prints.of("z6=0"), 10, 9, 10, 0, 6, 2);
            stripOf(Prints.of("z0=0"), 100, 9, 100, 0, 0, 10);
        });
        checks.test("Promise 18: the wanted tone or a greater one, none of which need be the wanted one", () -> {
            // Hard paper, from 10 on: the tones 1, 2, 4, 7, 9, 10 and so on.
            stripOf(Prints.of("z0=3", 5, 100), 10, 2, ZonePrint.NONE, ZonePrint.NONE, 0, 2);
            stripOf(Prints.of("z0=3", 5, 100), 10, 3, 15, 2, 0, 4);
            stripOf(Prints.of("z0=8", 5, 100), 10, 9, 25, 4, 0, 10);
            stripOf(Prints.of("z0=2"), 20, 1, 20, 0, 0, 3);
        });
        checks.test("Promise 18: neither burns nor holds nor what spills counts", () -> {
            ZonePrint x = Prints.of("z6=1;z6=1;n01;b0:999;h0:999;b1:999;t2000");
            stripOf(x, 10, 7, 40, 6, 1, 1);
        });
    }

    private static void stripOf(ZonePrint x, int first, int times, int time, int number, int hits, int last) {
        String name = "strip from " + first + " on, of " + times + ", ";
        checks.same(name + "0", x.strip(0, first, times, 0), time);
        checks.same(name + "1", x.strip(0, first, times, 1), number);
        checks.same(name + "2", x.strip(0, first, times, 2), hits);
        checks.same(name + "3", x.strip(0, first, times, 3), last);
    }

    /** A number at its least and at its greatest. */
    private static void countOf(String name, int what, ZonePrint least, int dueLeast, ZonePrint most, int dueMost) {
        checks.test("Promise 19: " + name, () -> {
            checks.same("count(" + what + ") at its least", least.count(what), dueLeast);
            checks.same("count(" + what + ") at its greatest", most.count(what), dueMost);
        });
    }

    private static void count() {
        ZonePrint none = new ZonePrint();
        ZonePrint eight = eightLinked(0, 5);
        countOf("no zones, and eight", 0, none, 0, eight, 8);
        countOf("the times for all 1 and 2000", 1, Prints.of("t1"), 1, Prints.of("t2000"), 2000);
        countOf("the grades 0 and 5", 2, Prints.of("t1", 0, 10), 0, Prints.of("t1", 5, 999), 5);
        countOf("the speeds 10 and 999", 3, Prints.of("t1", 0, 10), 10, Prints.of("t1", 5, 999), 999);
        ZonePrint right = eightLinked(0, 10);
        ZonePrint light = eightLinked(24, 10);
        ZonePrint dark = eightLinked(0, 0);
        countOf("none right, and all", 4, eight, 0, right, 8);
        countOf("none too light, and all", 5, right, 0, light, 8);
        countOf("none too dark, and all", 6, right, 0, dark, 8);
        checks.test("Promise 19: none right, too light or too dark without zones", () -> {
            for (int what = 4; what <= 6; what++) {
                checks.same("count(" + what + ")", none.count(what), 0);
            }
        });
        checks.test("Promise 19: by one tone too light, and by one too dark", () -> {
            ZonePrint x = Prints.of("t26;z0=4;z0=5;z0=6");
            checks.same("right", x.count(4), 1);
            checks.same("too light", x.count(5), 1);
            checks.same("too dark", x.count(6), 1);
        });
        ZonePrint burned = eightLinked(0, 0);
        ZonePrint held = eightLinked(0, 0);
        for (int zone = 0; zone < 8; zone++) {
            burned.burn(zone, 999);
            held.hold(zone, 999);
        }
        countOf("no burns, and eight times 999", 7, held, 0, burned, 7992);
        countOf("no holds, and eight times 999", 8, burned, 0, held, 7992);
        countOf("none without needs, and all", 9, eight, 0, light, 8);
        countOf("no pairs, and all 28", 10, Prints.of("z0=0;z0=0"), 0, eight, 28);
        countOf("no saved states, and six", 11, none, 0, burned, 6);
    }
}

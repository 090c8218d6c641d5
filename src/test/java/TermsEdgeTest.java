/** "Terms": the boundary cases of Light; Paper, tones; Zones; Strips; Settings. The other sections stand apart. */
public final class TermsEdgeTest {
    private static final Checks checks = new Checks();

    public static void main(String[] args) {
        checks.test("What it is: the 512th call is still answered", TermsEdgeTest::lastCall);
        light();
        paper();
        zones();
        needs();
        strips();
        checks.test("Settings: 0 is from 0 to 50, at first 10", TermsEdgeTest::settings);
        checks.end();
    }

    private static void lastCall() {
        ZonePrint x = new ZonePrint();
        for (int call = 1; call <= 510; call++) {
            x.expose(call);
        }
        checks.same("the 511th call", x.count(11), 6);
        checks.same("the 512th call", x.count(1), 510);
    }

    // ---- Light

    private static void light() {
        checks.test("Light: P is 100000, 79370 or 63000 for the rest 0, 1 or 2", () -> {
            int[] due = {100000, 79370, 63000, 50000, 39685, 31500, 25000, 19842, 15750, 12500, 9921, 7875, 6250,
                4960, 3937, 3125, 2480, 1968, 1562, 1240, 984, 781, 620, 492, 390};
            for (int density = 0; density <= 24; density++) {
                checks.same("100 through " + density, lightOf(density, 100), due[density]);
            }
        });
        checks.test("Light: halved, each time rounded down, then divided by 100, rounded down", () -> {
            int[] due = {1000, 793, 630, 500, 396, 315, 250, 198, 157, 125, 99, 78, 62, 49, 39, 31, 24, 19, 15, 12,
                9, 7, 6, 4, 3};
            for (int density = 0; density <= 24; density++) {
                checks.same("1 through " + density, lightOf(density, 1), due[density]);
            }
        });
        checks.test("Light: first the product, then it is halved", () -> {
            // 79370 halved seven times is 620.07; 2000 times 620, divided by 100, would be 12400.
            checks.same("2000 through 22", lightOf(22, 2000), 12401);
            // 100000 halved eight times is 390.6; 1999 times 390, divided by 100, would be 7796.
            checks.same("1999 through 24", lightOf(24, 1999), 7808);
        });
        checks.test("Light: none in the time 0", () -> {
            ZonePrint x = Prints.of("t1;z0=0;h0:1;z24=0;h1:999");
            checks.same("the time", x.zoneOf(0, 4), 0);
            checks.same("through 0", x.zoneOf(0, 5), 0);
            checks.same("through 24", x.zoneOf(1, 5), 0);
            checks.same("its tone", x.zoneOf(0, 6), 0);
        });
        checks.test("Light: the longest time of all, 2000 and 999 and seven times 499", () -> {
            ZonePrint x = longest();
            checks.same("its time", x.zoneOf(0, 4), 6492);
            checks.same("its light", x.zoneOf(0, 5), 6492000);
            checks.same("its tone", x.zoneOf(0, 6), 10);
        });
    }

    private static int lightOf(int density, int time) {
        ZonePrint x = new ZonePrint();
        x.zone(density, 5);
        x.expose(time);
        return x.zoneOf(0, 5);
    }

    private static ZonePrint longest() {
        ZonePrint x = Prints.of("z0=9;z0=9;z0=9;z0=9;z0=9;z0=9;z0=9;z0=9;t2000");
        for (int zone = 0; zone < 8; zone++) {
            x.burn(zone, 999);
            if (zone > 0) {
                x.link(0, zone);
            }
        }
        x.set(50);
        return x;
    }

    // ---- Paper, tones

    private static void paper() {
        checks.test("Paper: at first the grade is 2 and the speed 100", () -> {
            ZonePrint x = new ZonePrint();
            checks.same("grade", x.count(2), 2);
            checks.same("speed", x.count(3), 100);
            checks.same("mark(1)", x.mark(1), 10000);
            checks.same("mark(2)", x.mark(2), 12600);
            checks.same("mark(10)", x.mark(10), 80035);
        });
        checks.test("Paper: the first mark is the speed times 100, for the least and the greatest speed", () -> {
            for (int grade = 0; grade <= 5; grade++) {
                checks.same("speed 10", onPaper(grade, 10).mark(1), 1000);
                checks.same("speed 999", onPaper(grade, 999).mark(1), 99900);
            }
        });
        checks.test("Paper: each next mark is the one ahead times R, divided by 1000, but at least 1 greater",
            TermsEdgeTest::allMarks);
        checks.test("Paper: the greatest mark of all", () -> {
            // 99900 times 1.4 nine times, rounded down each time: 139860, 195804, 274125 and so on.
            checks.same("mark(10)", onPaper(0, 999).mark(10), 2064032);
        });
        checks.test("Tones: a mark that is the light counts, a mark that is 1 greater does not", TermsEdgeTest::tones);
        checks.test("Tones: white below the first mark, black from the last one on", () -> {
            // The marks are 10000 and so on to 80035, 1000 of light come in a tenth.
            checks.same("9000", toneOf(2, 100, 0, 9), 0);
            checks.same("10000", toneOf(2, 100, 0, 10), 1);
            checks.same("80000", toneOf(2, 100, 0, 80), 9);
            checks.same("81000", toneOf(2, 100, 0, 81), 10);
            checks.same("2000000", toneOf(2, 100, 0, 2000), 10);
        });
    }

    private static ZonePrint onPaper(int grade, int speed) {
        ZonePrint x = new ZonePrint();
        x.paper(grade, speed);
        return x;
    }

    /** Each paper that there is; forty of them a print, for it lasts for 512 calls. */
    private static void allMarks() {
        long[] factors = {1400, 1320, 1260, 1200, 1160, 1120};
        for (int grade = 0; grade <= 5; grade++) {
            ZonePrint x = new ZonePrint();
            for (int speed = 10; speed <= 999; speed++) {
                x = speed % 40 == 0 ? new ZonePrint() : x;
                x.paper(grade, speed);
                long due = speed * 100L;
                for (int tone = 1; tone <= 10; tone++) {
                    checks.same("mark(" + tone + ") of " + grade + ", " + speed, x.mark(tone), due);
                    due = Math.max(due * factors[grade] / 1000, due + 1);
                }
            }
        }
    }

    private static int toneOf(int grade, int speed, int density, int time) {
        ZonePrint x = new ZonePrint();
        x.paper(grade, speed);
        x.zone(density, 5);
        x.expose(time);
        return x.zoneOf(0, 6);
    }

    /** Grade, speed, the mark of the tone; a density and a time with this light; both with 1 less. */
    private static void tones() {
        int[][] rows = {
            {1, 0, 63, 6300, 2, 10, 13, 127},
            {2, 0, 45, 6300, 2, 10, 13, 127},
            {3, 2, 63, 10001, 11, 127, 0, 10},
            {4, 2, 50, 10001, 11, 127, 0, 10},
            {5, 2, 25, 6300, 2, 10, 13, 127},
            {6, 5, 13, 2289, 21, 293, 22, 369},
            {7, 2, 25, 10001, 11, 127, 0, 10},
            {8, 5, 171, 37800, 2, 60, 10, 381},
            {9, 5, 101, 25001, 4, 63, 0, 25},
            {10, 3, 14, 7218, 15, 231, 16, 291},
        };
        for (int[] row : rows) {
            checks.same("mark(" + row[0] + ")", onPaper(row[1], row[2]).mark(row[0]), row[3]);
            checks.same("the light", lightOf(row[4], row[5]), row[3]);
            checks.same("the light that is 1 less", lightOf(row[6], row[7]), row[3] - 1);
            checks.same("tone of the mark " + row[3], toneOf(row[1], row[2], row[4], row[5]), row[0]);
            checks.same("tone of 1 less", toneOf(row[1], row[2], row[6], row[7]), row[0] - 1);
        }
    }

    // ---- Zones

    private static void zones() {
        checks.test("Zones: burn and hold are 0 at first, the time for all is 100", () -> {
            ZonePrint x = Prints.of("z0=0;z24=10");
            for (int zone = 0; zone <= 1; zone++) {
                checks.same("burn", x.zoneOf(zone, 2), 0);
                checks.same("hold", x.zoneOf(zone, 3), 0);
                checks.same("neighbours", x.zoneOf(zone, 7), 0);
                checks.same("time", x.zoneOf(zone, 4), 100);
            }
        });
        checks.test("Zones: less its hold, but at least half of the time for all, rounded down", TermsEdgeTest::holds);
        checks.test("Zones: the burn comes on top of the half", () -> {
            ZonePrint x = Prints.of("z0=5;t100;h0:999;b0:1");
            checks.same("100, hold 999, burn 1", x.zoneOf(0, 4), 51);
            x.burn(0, 999);
            checks.same("100, hold 999, burn 999", x.zoneOf(0, 4), 1049);
            x.expose(1);
            checks.same("1, hold 999, burn 999", x.zoneOf(0, 4), 999);
        });
        checks.test("Zones: the spill comes on top of the half, and no hold keeps it off", () -> {
            ZonePrint x = Prints.of("z0=5;z0=5;n01;t10;h0:999;b1:100");
            checks.same("half of 10, and 10", x.zoneOf(0, 4), 15);
        });
        checks.test("Zones: the burn of a neighbour times the setting, divided by 100, rounded down",
            TermsEdgeTest::spills);
        checks.test("Zones: each neighbour's burn is divided by itself", () -> {
            ZonePrint x = Prints.of("z0=5;z0=5;z0=5;z0=5;n01;n02;n03;b1:19;b2:19;b3:9");
            checks.same("1 and 1 and 0", x.zoneOf(0, 10), 2);
            checks.same("its time", x.zoneOf(0, 4), 102);
        });
        checks.test("Zones: only neighbours spill, and only their burns", () -> {
            ZonePrint x = Prints.of("z0=5;z0=5;z0=5;n01;n12;b2:999;h1:999");
            checks.same("from a neighbour's neighbour", x.zoneOf(0, 10), 0);
            checks.same("from the neighbour", x.zoneOf(1, 10), 99);
            checks.same("not onto itself", x.zoneOf(2, 10), 0);
            x.link(2, 1);
            checks.same("from a neighbour no longer", x.zoneOf(1, 10), 0);
        });
        checks.test("Zones: seven neighbours spill onto the eighth zone", () -> {
            ZonePrint x = longest();
            checks.same("seven times 499", x.zoneOf(0, 10), 3493);
            checks.same("onto zone 7", x.zoneOf(7, 10), 499);
            checks.same("the mask of seven", x.zoneOf(0, 7), 254);
        });
        checks.test("Zones: right with the wanted tone alone, white and black too", () -> {
            for (int wanted = 0; wanted <= 10; wanted++) {
                ZonePrint x = Prints.of("z0=" + wanted + ";t1");
                checks.same("white, wanted " + wanted, x.count(4), wanted == 0 ? 1 : 0);
                checks.same("black, wanted " + wanted, x.expose(2000), wanted == 10 ? 1 : 0);
                checks.same("tone 5, wanted " + wanted, x.expose(26), wanted == 5 ? 1 : 0);
            }
        });
    }

    /** Time for all, hold, time of the zone. */
    private static void holds() {
        int[][] rows = {
            {100, 0, 100}, {100, 1, 99}, {100, 49, 51}, {100, 50, 50}, {100, 51, 50}, {100, 999, 50},
            {7, 3, 4}, {7, 4, 3}, {7, 5, 3}, {7, 999, 3}, {3, 1, 2}, {3, 2, 1}, {3, 3, 1}, {2, 1, 1}, {2, 2, 1},
            {1, 0, 1}, {1, 1, 0}, {1, 2, 0}, {1, 999, 0},
            {2000, 999, 1001}, {1999, 999, 1000}, {1998, 999, 999}, {1997, 999, 998}, {1996, 999, 998},
        };
        for (int[] row : rows) {
            ZonePrint x = Prints.of("z0=5;t" + row[0]);
            x.hold(0, row[1]);
            checks.same(row[0] + " less " + row[1], x.zoneOf(0, 4), row[2]);
        }
    }

    /** Setting, burn, what spills. */
    private static void spills() {
        int[][] rows = {
            {0, 999, 0}, {1, 99, 0}, {1, 100, 1}, {1, 999, 9}, {10, 0, 0}, {10, 9, 0}, {10, 10, 1}, {10, 19, 1},
            {10, 999, 99}, {33, 3, 0}, {33, 4, 1}, {49, 999, 489}, {50, 1, 0}, {50, 2, 1}, {50, 3, 1}, {50, 999, 499},
        };
        for (int[] row : rows) {
            ZonePrint x = Prints.of("z0=5;z0=5;n01;t100");
            x.set(row[0]);
            x.burn(0, row[1]);
            checks.same(row[1] + " at " + row[0], x.zoneOf(1, 10), row[2]);
            checks.same("the time with " + row[1] + " at " + row[0], x.zoneOf(1, 4), 100 + row[2]);
            checks.same("nothing comes back", x.zoneOf(0, 4), 100 + row[1]);
        }
    }

    private static void needs() {
        checks.test("Zones: the needs begin at 1 and end at 9999", () -> {
            need("white through 24, all the times", 0, 391, 24, 0, 1, 9999);
            need("black through 0", 2, 100, 0, 10, 81, 9999);
        });
        checks.test("Zones: 9999 is the last time that can be needed", () -> {
            need("from 9999 on", 0, 620, 22, 1, 9999, 9999);
            need("up to 9998", 0, 620, 22, 0, 1, 9998);
            need("from 9998 on", 0, 797, 18, 3, 9998, 9999);
            need("up to 9997", 0, 797, 18, 2, 7142, 9997);
            need("black from 10000 on", 0, 605, 9, 10, ZonePrint.NONE, ZonePrint.NONE);
            need("up to 9999", 0, 605, 9, 9, 7143, 9999);
            need("from 10000 on", 0, 279, 24, 2, ZonePrint.NONE, ZonePrint.NONE);
            need("up to 10000", 0, 226, 22, 3, 7144, 9999);
            need("from 10001 on", 0, 226, 22, 4, ZonePrint.NONE, ZonePrint.NONE);
        });
        checks.test("Zones: 1 is the first time that can be needed", () -> {
            // The marks are 1000, 1400, 1960, 2744, and 1000 of light come in a tenth.
            need("already tone 1 at 1", 0, 10, 0, 0, ZonePrint.NONE, ZonePrint.NONE);
            need("only 1", 0, 10, 0, 1, 1, 1);
            // 793 at 1.
            need("only 1, white", 0, 10, 1, 0, 1, 1);
        });
        checks.test("Zones: no needs if a tone is jumped over", () -> {
            need("2 comes at 2, and so does 3", 0, 10, 0, 2, ZonePrint.NONE, ZonePrint.NONE);
            need("3 at 2", 0, 10, 0, 3, 2, 2);
            need("4 at 3", 0, 10, 0, 4, 3, 3);
        });
        checks.test("Zones: the needs are those of the tone, whatever the times of the print are", () -> {
            ZonePrint x = Prints.of("z6=5;z6=5;n01;t2000;b0:999;h0:999;b1:999");
            checks.same("least", x.zoneOf(0, 8), 101);
            checks.same("greatest", x.zoneOf(0, 9), 127);
        });
    }

    private static void need(String name, int grade, int speed, int density, int wanted, int least, int greatest) {
        ZonePrint x = new ZonePrint();
        x.paper(grade, speed);
        x.zone(density, wanted);
        checks.same(name + ": the least", x.zoneOf(0, 8), least);
        checks.same(name + ": the greatest", x.zoneOf(0, 9), greatest);
        checks.same(name + ": without any", x.count(9), least == ZonePrint.NONE ? 1 : 0);
    }

    // ---- Strips

    private static void strips() {
        checks.test("Strips: the times of the strip, first doubled, then times 126 or 159, divided by 100", () -> {
            stripTimes(999, 999, 1258, 1588, 1998, 2517, 3176, 3996, 5034, 6353);
            stripTimes(100, 100, 126, 159, 200, 252, 318, 400, 504, 636);
            stripTimes(23, 23, 28, 36, 46, 57, 73, 92, 115, 146);
            stripTimes(7, 7, 8, 11, 14, 17, 22, 28, 35, 44);
        });
        checks.test("Strips: the least first time, of which some times are the same", () -> {
            stripTones(1, 1, 1, 1, 2, 2, 3, 4, 5, 6);
            stripTones(2, 2, 2, 3, 4, 5, 6, 8, 10, 12);
        });
    }

    /** Finds each time of a strip by a paper whose first mark comes with it, and not with the time ahead of it. */
    private static void stripTimes(int first, int... times) {
        for (int number = 0; number < times.length; number++) {
            int light = times[number] * 1000;
            int density = 0;
            // No paper has a first mark above 99900: three thirds of a stop more halve the light.
            while (light > 99900) {
                light /= 2;
                density += 3;
            }
            ZonePrint x = onPaper(5, light / 100);
            x.zone(density, 1);
            String name = "time " + number + " from " + first + " on";
            checks.same(name, x.strip(0, first, 9, 0), times[number]);
            checks.same(name + ", its number", x.strip(0, first, 9, 1), number);
            checks.same(name + ", as the last one", x.strip(0, first, number + 1, 0), times[number]);
            if (number > 0) {
                checks.same(name + ", one less", x.strip(0, first, number, 0), ZonePrint.NONE);
            }
        }
    }

    /** Compares the tone with each time of a strip with the tone of a zone that has just this time. */
    private static void stripTones(int first, int... times) {
        for (int speed = 10; speed <= 120; speed += 10) {
            ZonePrint x = Prints.of("z0=5", 2, speed);
            ZonePrint y = Prints.of("z0=5", 2, speed);
            for (int number = 0; number < times.length; number++) {
                y.expose(times[number]);
                checks.same("tone of time " + number + " from " + first + " on, at " + speed,
                    x.strip(0, first, number + 1, 3), y.zoneOf(0, 6));
            }
        }
    }

    // ---- Settings

    private static void settings() {
        ZonePrint x = Prints.of("z0=5;z0=5;n01;b0:100");
        checks.same("at first", x.zoneOf(1, 10), 10);
        checks.same("set(0)", x.set(0), 10);
        checks.same("nothing spills", x.zoneOf(1, 10), 0);
        checks.same("set(50)", x.set(50), 0);
        checks.same("half spills", x.zoneOf(1, 10), 50);
        checks.same("set(1)", x.set(1), 50);
        checks.same("a hundredth spills", x.zoneOf(1, 10), 1);
    }
}

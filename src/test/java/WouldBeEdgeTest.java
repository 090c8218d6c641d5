import java.math.BigInteger;
import java.util.ArrayList;
import java.util.List;

/** Promises 20 to 26: the boundary cases of what would be, of the share and of the hash. */
public final class WouldBeEdgeTest {
    private static final Checks checks = new Checks();

    private static final long NEW_DIGEST = -1898129365807851457L;
    private static final String EIGHT_WHITE = "z24=0;z24=0;z24=0;z24=0;z24=0;z24=0;z24=0;z24=0";

    public static void main(String[] args) {
        ifExposed();
        bestTime();
        bestGrade();
        ifBurned();
        common();
        rightShare();
        digest();
        checks.end();
    }

    private static void ifExposed() {
        checks.test("Promise 20: the times 1 and 2000, each asked for both", () -> {
            ZonePrint x = Prints.of("z0=0;z0=10;z24=0;z24=10");
            checks.same("right at 1", x.ifExposed(1, 0), 2);
            checks.same("missed at 1", x.ifExposed(1, 1), 20);
            checks.same("right at 2000", x.ifExposed(2000, 0), 2);
            checks.same("missed at 2000", x.ifExposed(2000, 1), 20);
        });
        checks.test("Promise 20: nothing is missed without zones, at most ten tones of each of eight", () -> {
            checks.same("without zones", new ZonePrint().ifExposed(2000, 1), 0);
            checks.same("right without zones", new ZonePrint().ifExposed(2000, 0), 0);
            ZonePrint x = Prints.of("z0=0;z0=0;z0=0;z0=0;z0=0;z0=0;z0=0;z0=0");
            checks.same("eight black ones", x.ifExposed(2000, 1), 80);
            checks.same("eight white ones", x.ifExposed(1, 1), 0);
            checks.same("eight right ones", x.ifExposed(1, 0), 8);
        });
        checks.test("Promise 20: too light and too dark add up, and do not make up for each other", () -> {
            ZonePrint x = Prints.of("z0=4;z0=6");
            checks.same("tone 5 twice", x.ifExposed(26, 1), 2);
        });
        checks.test("Promise 20: with burns, holds and spill, and the half of the other time", () -> {
            ZonePrint x = Prints.of("z0=2;z0=5;n01;h0:999;b1:19;t2000");
            // The half of 25 is 12, and 1 more: tone 2. 25 and 19: tone 7.
            checks.same("right at 25", x.ifExposed(25, 0), 1);
            checks.same("missed at 25", x.ifExposed(25, 1), 2);
            checks.same("the time for all stays", x.count(1), 2000);
        });
    }

    /** One zone that gets its first mark between two times, so that one tone decides. */
    private static int bestFor(int density, int wanted, int speed) {
        return Prints.of("z" + density + "=" + wanted, 2, speed).bestTime();
    }

    private static void bestTime() {
        checks.test("Promise 21: 10 without zones, and if all times are as good", () -> {
            checks.same("without zones", new ZonePrint().bestTime(), 10);
            checks.same("white with all of them", Prints.of(EIGHT_WHITE).bestTime(), 10);
            checks.same("never black", Prints.of("z24=10", 0, 999).bestTime(), 10);
        });
        checks.test("Promise 21: the last time is 2000", () -> {
            // Through 24 the lights are 7773 at 1990 and 7812 at 2000.
            checks.same("first mark 7800", bestFor(24, 10, 78), 2000);
            checks.same("first mark 7900", bestFor(24, 10, 79), 10);
            // Through 21 they are 15625 at 2000 and 15703 at 2010, which is no time for all.
            checks.same("first mark 15700", bestFor(21, 10, 157), 10);
        });
        checks.test("Promise 21: the first time is 10", () -> {
            // 10 to 12 are needed.
            checks.same("tone 1 through 0", bestFor(0, 1, 100), 10);
            // White at 9 at the most.
            checks.same("white through 0", bestFor(0, 0, 100), 10);
        });
        checks.test("Promise 21: only the times 10, 20, 30 and so on", () -> {
            // 13 to 15 are needed: tone 1 at 10, tone 3 at 20.
            checks.same("tone 2 through 0", bestFor(0, 2, 100), 10);
            // 16 to 20 are needed, 21 to 25 (3 at 20, 5 at 30), 26 to 31, 32 to 40, 41 to 50.
            int[] due = {20, 20, 30, 40, 50};
            for (int wanted = 3; wanted <= 7; wanted++) {
                checks.same("tone " + wanted + " through 0", bestFor(0, wanted, 100), due[wanted - 3]);
            }
        });
        checks.test("Promise 21: of several the least one", () -> {
            // 64 to 80 and 81 to 100 are needed.
            checks.same("tone 3 through 6", bestFor(6, 3, 100), 70);
            checks.same("tone 4 through 6", bestFor(6, 4, 100), 90);
            checks.same("both: one of them is off by 1", Prints.of("z6=3;z6=4").bestTime(), 70);
        });
        checks.test("Promise 21: the least sum, though another time makes more zones right", () -> {
            // At 10 two are right and one is off by 9; at 40 or so all are off by some.
            ZonePrint x = Prints.of("z0=1;z0=1;z0=10");
            checks.same("two of three", x.ifExposed(10, 1), 9);
            checks.same("bestTime()", x.bestTime(), 10);
            ZonePrint y = Prints.of("z0=0;z3=10;z6=10");
            // 81, 161 and 321 are black; 0 would be right below 10.
            checks.same("bestTime()", y.bestTime(), 330);
            checks.same("right at 330", y.ifExposed(330, 0), 2);
        });
        checks.test("Promise 21: with burns and holds as they are", () -> {
            checks.same("a burn of 20", Prints.of("z0=7;b0:20").bestTime(), 30);
            checks.same("a hold of 20", Prints.of("z0=7;h0:20").bestTime(), 70);
            checks.same("a hold of more than half", Prints.of("z0=7;h0:999").bestTime(), 90);
            ZonePrint x = Prints.of("z0=7;b0:20");
            x.bestTime();
            checks.same("the time for all stays", x.count(1), 100);
        });
    }

    private static void grade(int due, String text, int speed) {
        for (int grade = 0; grade <= 5; grade++) {
            checks.same(text + " at " + speed + " from " + grade, Prints.of(text, grade, speed).bestGrade(), due);
        }
    }

    private static void bestGrade() {
        checks.test("Promise 22: the lowest one without zones", () -> {
            for (int grade = 0; grade <= 5; grade++) {
                ZonePrint x = new ZonePrint();
                x.paper(grade, 999);
                checks.same("from " + grade, x.bestGrade(), 0);
            }
        });
        checks.test("Promise 22: most zones right, though another one has a smaller sum of burns and holds", () -> {
            grade(0, "z6=10;z12=2;z0=8", 100);
            grade(1, "z3=5;z0=4;z15=8", 10);
            grade(2, "z3=2;z3=9;z0=9", 10);
            grade(3, "z6=0;z0=4;z24=7", 10);
            grade(5, "z18=7", 200);
        });
        checks.test("Promise 22: of several the least sum of all burns and holds", () -> {
            grade(0, "z15=1;z12=2", 100);
            grade(1, "z6=10;z18=1", 100);
            grade(2, "z12=1;z3=10", 50);
            grade(3, "z3=3;z0=7", 999);
            grade(4, "z6=9;z3=5", 10);
            grade(5, "z21=5", 100);
            // Burns and holds are 12 and 65 with grade 3, 28 and 40 with 4, 60 and 11 with 5.
            grade(4, "z0=9;z3=1;z6=1", 400);
        });
        checks.test("Promise 22: of several with the same sum the lowest one", () -> {
            grade(0, "z6=1", 200);
            grade(1, "z3=9", 999);
            grade(2, "z3=10", 999);
            grade(3, "z12=10", 200);
            grade(4, "z15=4", 400);
        });
        checks.test("Promise 22: with the neighbours and the setting as they are", () -> {
            ZonePrint x = Prints.of("z0=9;z6=6;z3=4");
            checks.same("no neighbours", x.bestGrade(), 5);
            x.link(0, 1);
            x.link(1, 2);
            checks.same("10 hundredths", x.bestGrade(), 4);
            x.set(50);
            checks.same("50 hundredths", x.bestGrade(), 0);
        });
        checks.test("Promise 22: with the time for all as it is, where no zone needs any", () -> {
            // The tone 3 is needed at the time 2 with the grades 0 and 1, and jumped over with the others.
            // White needs no time, but at the time 1 a hold of 1 brings the half of it, which is 0.
            ZonePrint x = Prints.of("z0=0;z0=0;z0=3;t1", 2, 10);
            checks.same("without needs", x.count(9), 3);
            checks.same("the time 1", x.bestGrade(), 2);
            x.expose(100);
            checks.same("the time 100", x.bestGrade(), 0);
        });
        checks.test("Promise 22: burns and holds as they are do not count, and all stays as it is", () -> {
            ZonePrint x = Prints.of("z6=10;z18=1;b0:999;h1:999;b1:5;t7");
            ZonePrint y = Prints.of("z6=10;z18=1;b0:999;h1:999;b1:5;t7");
            checks.same("bestGrade()", x.bestGrade(), 1);
            checks.sameAnswers("bestGrade()", x, y);
        });
    }

    private static void ifBurned() {
        checks.test("Promise 23: the burns 0 and 999, of the first and of the last zone", () -> {
            ZonePrint x = Prints.of("z6=4;z6=4;z6=4;z6=4;z6=4;z6=4;z6=4;z6=10;b0:7;b7:8");
            for (int zone : new int[] {0, 7}) {
                checks.same("tone with 0", x.ifBurned(zone, 0, 0), 4);
                checks.same("tone with 999", x.ifBurned(zone, 999, 0), 10);
                checks.same("tone with 1", x.ifBurned(zone, 1, 0), 5);
            }
            // Zone 0 is right without a burn, zone 7 with a long one.
            checks.same("right ones, zone 0 with 0", x.ifBurned(0, 0, 1), 7);
            checks.same("right ones, zone 0 with 999", x.ifBurned(0, 999, 1), 6);
            checks.same("right ones, zone 7 with 0", x.ifBurned(7, 0, 1), 6);
            checks.same("right ones, zone 7 with 999", x.ifBurned(7, 999, 1), 7);
            checks.same("its burn stays", x.zoneOf(0, 2), 7);
        });
        checks.test("Promise 23: this burn takes the place of the one there is, and the spill with it", () -> {
            ZonePrint x = Prints.of("z6=5;z6=5;n01;b0:999");
            // 101 to 127 are needed; of a burn of 9 nothing comes onto zone 1, of one from 10 to 19 it is 1.
            checks.same("right ones with 27", x.ifBurned(0, 27, 1), 2);
            checks.same("right ones with 9", x.ifBurned(0, 9, 1), 1);
            checks.same("right ones with 10", x.ifBurned(0, 10, 1), 2);
            checks.same("right ones with 28", x.ifBurned(0, 28, 1), 1);
        });
    }

    private static void common(String name, ZonePrint x, int least, int greatest) {
        checks.same("common(0), " + name, x.common(0), least);
        checks.same("common(1), " + name, x.common(1), greatest);
    }

    private static void common() {
        checks.test("Promise 24: NONE without zones, and if no zone needs any", () -> {
            common("without zones", new ZonePrint(), ZonePrint.NONE, ZonePrint.NONE);
            common("one without needs", Prints.of("z24=10"), ZonePrint.NONE, ZonePrint.NONE);
            common("eight without needs", Prints.of(EIGHT_WHITE.replace("=0", "=9")), ZonePrint.NONE, ZonePrint.NONE);
        });
        checks.test("Promise 24: from 1 to 9999", () -> {
            common("white with all of them", Prints.of(EIGHT_WHITE, 0, 391), 1, 9999);
            common("only 9999", Prints.of("z22=1", 0, 620), 9999, 9999);
            common("only 1", Prints.of("z0=1", 0, 10), 1, 1);
            common("black", Prints.of("z0=10"), 81, 9999);
        });
        checks.test("Promise 24: only zones that need any count", () -> {
            common("one of three", Prints.of("z24=10;z0=5;z24=9"), 26, 31);
            common("the last of eight", Prints.of("z24=9;z24=9;z24=9;z24=9;z24=9;z24=9;z24=9;z0=5"), 26, 31);
        });
        checks.test("Promise 24: the times that all of them share, from one on", () -> {
            // 128 to 160 through 3; black from 81 through 0, and from 161 through 3.
            common("81 on and 128 to 160", Prints.of("z0=10;z3=9"), 128, 160);
            common("81 on and 161 on", Prints.of("z0=10;z3=10"), 161, 9999);
            // 21 to 25 through 0 and 20 to 25 through 2, 20 and 21 to 25 through 3.
            common("three that begin at 20 and 21", Prints.of("z0=4;z2=2;z3=1"), 21, 25);
            // 1 to 9 and 1 to 19.
            common("white", Prints.of("z0=0;z3=0"), 1, 9);
        });
        checks.test("Promise 24: NONE for times that only touch", () -> {
            // 26 to 31, and from 32 on.
            common("26 to 31 and 32 to 40", Prints.of("z0=5;z0=6"), ZonePrint.NONE, ZonePrint.NONE);
            common("each two share some, all three none", Prints.of("z0=10;z12=0;z24=1;z3=0"), ZonePrint.NONE,
                ZonePrint.NONE);
        });
        checks.test("Promise 24: a single time that they share", () -> {
            // Tone 3 through 0 is 16 to 20, tone 1 through 3 is 20 to 25.
            common("16 to 20 and 20 to 25", Prints.of("z0=3;z3=1"), 20, 20);
        });
        checks.test("Promise 24: as their own time, without burns and holds", () -> {
            ZonePrint x = Prints.of("z0=5;z0=5;n01;b0:999;h0:5;b1:7;h1:999;t2000");
            common("26 to 31", x, 26, 31);
        });
    }

    private static void rightShare() {
        checks.test("Promise 25: 1.0 without zones", () -> {
            checks.same("rightShare()", new ZonePrint().rightShare(), 1.0);
            ZonePrint x = Prints.of("z0=0");
            checks.same("none of one", x.rightShare(), 0.0);
            x.undo();
            checks.same("without zones again", x.rightShare(), 1.0);
        });
        checks.test("Promise 25: the zones that are right, divided by all zones", () -> {
            for (int zones = 1; zones <= 8; zones++) {
                ZonePrint x = new ZonePrint();
                for (int zone = 0; zone < zones; zone++) {
                    x.zone(0, 0);
                }
                for (int right = 0; right <= zones; right++) {
                    checks.same(right + " of " + zones, x.rightShare(), right / (double) zones);
                    if (right < zones) {
                        x.want(right, 10);
                    }
                }
            }
        });
    }

    private static void digest() {
        checks.test("Promise 26: nothing at all, and all full", () -> {
            hash("a new object", new ZonePrint(), 10, "");
            hash("three zones", Prints.some(), 33, "t5;z");
            hash("all full", Prints.full(), 21, Prints.FULL_BUFFER);
        });
        checks.test("Promise 26: in long arithmetic with overflow", () -> {
            boolean below = false;
            boolean above = false;
            for (int time = 1; time <= 40; time++) {
                ZonePrint x = Prints.of("z0=5;t" + time);
                hash("at " + time, x, 10, "");
                below |= x.digest() < 0;
                above |= x.digest() > 0;
            }
            checks.isTrue("some are below 0, and some above it", below && above);
        });
        checks.test("Promise 26: the hash of a new object", () -> {
            // Worked out apart from this class.
            checks.same("digest()", new ZonePrint().digest(), NEW_DIGEST);
        });
        checks.test("Promise 26: with NONE, and the shares 0.0, 1.0 and between", () -> {
            hash("no needs", Prints.of("z24=10;z24=9"), 10, "");
            for (int zones = 1; zones <= 8; zones++) {
                for (int right = 0; right <= zones; right++) {
                    ZonePrint x = new ZonePrint();
                    for (int zone = 0; zone < zones; zone++) {
                        x.zone(0, zone < right ? 10 : 0);
                    }
                    hash(right + " of " + zones, x, 10, "");
                }
            }
        });
        checks.test("Promise 26: with a burn of 50, neither 49 nor 51, a time of 200, neither 199 nor 201", () -> {
            // A burn of 50 makes 101 of 51, just enough for tone 5, and 100 of 50, just too little.
            hash("at 51", Prints.of("z6=5;t51"), 10, "");
            hash("at 50", Prints.of("z6=5;t50"), 10, "");
            // It makes 127 of 77, just little enough for tone 5, and 128 of 78, just too much.
            hash("at 77", Prints.of("z6=5;t77"), 10, "");
            hash("at 78", Prints.of("z6=5;t78"), 10, "");
            // The time 200 brings 100000, one more or less 500 more or less; the second mark is 99540, or 100296.
            hash("at 790", Prints.of("z3=1", 2, 790), 10, "");
            hash("at 796", Prints.of("z3=1", 2, 796), 10, "");
        });
        checks.test("Promise 26: each character code of the buffer, in its order", () -> {
            ZonePrint x = new ZonePrint();
            Checks.type(x, "!~");
            hash("the least and the greatest", x, 10, "!~");
            Checks.type(x, "~!");
            hash("the other way round", x, 10, "~!");
            x.clearBuffer();
            hash("cleared", x, 10, "");
        });
        checks.test("Promise 26: computing it changes nothing", () -> {
            ZonePrint x = Prints.full();
            long before = x.digest();
            checks.same("again", x.digest(), before);
            checks.sameAnswers("digest()", x, Prints.full());
        });
    }

    /** Compares the hash with that of the document's list: what the methods answer, and what they can't be asked. */
    private static void hash(String name, ZonePrint x, int spill, String buffer) {
        List<Long> values = new ArrayList<>();
        for (int what = 0; what <= 11; what++) {
            values.add((long) x.count(what));
        }
        values.add((long) spill);
        for (int tone = 1; tone <= 10; tone++) {
            values.add((long) x.mark(tone));
        }
        for (int zone = 0; zone < x.count(0); zone++) {
            for (int what = 0; what <= 10; what++) {
                values.add((long) x.zoneOf(zone, what));
            }
            for (int what = 0; what <= 3; what++) {
                values.add((long) x.strip(zone, 10, 9, what));
            }
            values.add((long) x.ifBurned(zone, 50, 0));
            values.add((long) x.ifBurned(zone, 50, 1));
        }
        for (int what = 0; what <= 1; what++) {
            values.add((long) x.ifExposed(200, what));
        }
        values.add((long) x.bestTime());
        values.add((long) x.bestGrade());
        values.add((long) x.common(0));
        values.add((long) x.common(1));
        values.add(Double.doubleToLongBits(x.rightShare()));
        values.add((long) buffer.length());
        for (char sign : buffer.toCharArray()) {
            values.add((long) sign);
        }
        // No overflow on the way: what is left of the whole number are its lowest 64 bits.
        BigInteger hash = BigInteger.valueOf(2879);
        for (long value : values) {
            hash = hash.multiply(BigInteger.valueOf(31)).add(BigInteger.valueOf(value));
        }
        checks.same("digest() of " + name, x.digest(), hash.longValue());
    }
}

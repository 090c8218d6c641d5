/** Promises 20 to 26: ifExposed, bestTime, bestGrade, ifBurned, common, rightShare, digest. */
public final class WouldBeTest {
    private static final Class<IllegalArgumentException> IAE = IllegalArgumentException.class;
    private static final Class<IndexOutOfBoundsException> IOOBE = IndexOutOfBoundsException.class;

    private static final Checks checks = new Checks();

    public static void main(String[] args) {
        ifExposed();
        bestTime();
        bestGrade();
        ifBurned();
        common();
        rightShare();
        digest();
        digestSeesAll();
        checks.end();
    }

    private static ZonePrint three() {
        ZonePrint x = new ZonePrint();
        x.zone(0, 5);
        x.zone(6, 5);
        x.zone(3, 3);
        return x;
    }

    private static void ifExposed() {
        ZonePrint x = new ZonePrint();
        checks.same("20: without zones", x.ifExposed(200, 1), 0);
        int[][] wrong = {{0, 0}, {2001, 0}, {-1, 0}, {1, 2}, {1, -1}, {Integer.MAX_VALUE, 0}};
        for (int[] pair : wrong) {
            checks.thrown("20: " + pair[0] + ", " + pair[1], x, IAE, () -> x.ifExposed(pair[0], pair[1]));
        }
        ZonePrint y = three();
        long before = y.digest();
        // At 32: 32000 (6), 8000 (0), 16000 (3).
        checks.same("20: ifExposed(32, 0)", y.ifExposed(32, 0), 1);
        checks.same("20: ifExposed(32, 1)", y.ifExposed(32, 1), 6);
        checks.same("20: ifExposed(1, 1), all white", y.ifExposed(1, 1), 13);
        checks.same("20: ifExposed(2000, 1), all black", y.ifExposed(2000, 1), 17);
        checks.same("20: nothing is changed", y.digest(), before);
        y.burn(1, 69);
        y.hold(0, 1);
        checks.same("20: with burns and holds", y.ifExposed(32, 0), 3);
        checks.same("20: with burns and holds", y.ifExposed(32, 1), 0);
    }

    private static void bestTime() {
        ZonePrint x = new ZonePrint();
        checks.same("21: without zones", x.bestTime(), 10);
        ZonePrint y = three();
        long before = y.digest();
        // At 30: 5, 0, 2 (off by 6); at 40: 6, 1, 4 with 40000, 10000, 20000 (off by 1, 4, 0).
        checks.same("21: three zones", y.bestTime(), 40);
        checks.same("21: nothing is changed", y.digest(), before);
        y.burn(1, 69);
        // At 30: 5, 3 (24750 is 4), 2; at 40: 6, 5, 3.
        checks.same("21: with a burn", y.bestTime(), 40);
        ZonePrint z = new ZonePrint();
        z.zone(0, 10);
        checks.same("21: of several the least", z.bestTime(), 90);
        z.want(0, 0);
        checks.same("21: white", z.bestTime(), 10);
        z.undo();
        z.undo();
        z.zone(24, 10);
        // 3.90625 a tenth: 2000 brings 7812, not even the first mark.
        checks.same("21: all the same", z.bestTime(), 10);
        z.paper(5, 78);
        // The first mark is 7800: 1997 tenths.
        checks.same("21: the last one alone", z.bestTime(), 2000);
    }

    private static void bestGrade() {
        ZonePrint x = new ZonePrint();
        checks.same("22: without zones", x.bestGrade(), 0);
        ZonePrint y = three();
        long before = y.digest();
        checks.same("22: three zones", y.bestGrade(), bestByTrying(y));
        checks.same("22: nothing is changed", y.digest(), before);
        String[] texts = {
            "z0=0;z3=4;z6=8;z9=1;z12=5;z15=9;n01;n12;n23", "z4=9;z8=5;z12=2;n01;n12;n02", "z0=10;z24=10;z12=5",
            "z7=4;z7=5;z7=6;n01;n02;n12", "z24=10;z24=0", "z13=3", "z18=7;z10=4;z0=1;n02",
        };
        boolean[] seen = new boolean[6];
        for (String text : texts) {
            for (int speed = 10; speed < 1000; speed += 43) {
                ZonePrint z = new ZonePrint();
                Checks.type(z, text);
                z.run();
                z.paper(2, speed);
                int grade = z.bestGrade();
                seen[grade] = true;
                checks.same("22: " + text + " at " + speed, grade, bestByTrying(z));
            }
        }
        int grades = 0;
        for (boolean one : seen) {
            grades += one ? 1 : 0;
        }
        checks.isTrue("22: several grades are the best ones", grades >= 3);
    }

    private static int bestByTrying(ZonePrint x) {
        int best = ZonePrint.NONE;
        int mostRight = 0;
        int leastChanged = 0;
        int speed = x.count(3);
        for (int grade = 0; grade <= 5; grade++) {
            x.paper(grade, speed);
            int right = x.plan();
            int changed = x.count(7) + x.count(8);
            x.undo();
            x.undo();
            if (best == ZonePrint.NONE || right > mostRight || right == mostRight && changed < leastChanged) {
                best = grade;
                mostRight = right;
                leastChanged = changed;
            }
        }
        return best;
    }

    private static void ifBurned() {
        ZonePrint x = new ZonePrint();
        checks.thrown("23: no zone", x, IOOBE, () -> x.ifBurned(0, 0, 0));
        checks.thrown("23: no zone, and all wrong", x, IOOBE, () -> x.ifBurned(0, 1000, 2));
        ZonePrint y = three();
        checks.thrown("23: zone 3", y, IOOBE, () -> y.ifBurned(3, 0, 0));
        checks.thrown("23: zone -1", y, IOOBE, () -> y.ifBurned(-1, 0, 0));
        int[][] wrong = {{-1, 0}, {1000, 0}, {0, -1}, {0, 2}, {Integer.MAX_VALUE, 0}};
        for (int[] pair : wrong) {
            checks.thrown("23: " + pair[0] + ", " + pair[1], y, IAE, () -> y.ifBurned(0, pair[0], pair[1]));
        }
        y.expose(32);
        y.hold(0, 1);
        y.burn(1, 500);
        y.link(1, 2);
        long before = y.digest();
        checks.same("23: its tone", y.ifBurned(1, 69, 0), 5);
        checks.same("23: right ones, with 6 on zone 2", y.ifBurned(1, 69, 1), 3);
        checks.same("23: its tone, without", y.ifBurned(1, 0, 0), 0);
        checks.same("23: right ones, without", y.ifBurned(1, 0, 1), 2);
        // 99 spill onto zone 2.
        checks.same("23: the longest burn", y.ifBurned(1, 999, 0), 10);
        checks.same("23: right ones, with too much spill", y.ifBurned(1, 999, 1), 1);
        checks.same("23: nothing is changed", y.digest(), before);
    }

    private static void common() {
        ZonePrint x = new ZonePrint();
        checks.thrown("24: what 2", x, IAE, () -> x.common(2));
        checks.thrown("24: what -1", x, IAE, () -> x.common(-1));
        checkCommon(x, "without zones", ZonePrint.NONE, ZonePrint.NONE);
        x.zone(24, 10);
        checkCommon(x, "no zone needs any", ZonePrint.NONE, ZonePrint.NONE);
        x.zone(0, 5);
        checkCommon(x, "one needs 26 to 31", 26, 31);
        x.zone(1, 5);
        // 793.7 a tenth: 31.75 and 40.0.
        checkCommon(x, "one more needs 32 to 40", ZonePrint.NONE, ZonePrint.NONE);
        x.want(2, 4);
        // 20003 / 793.7 is 25.2.
        checkCommon(x, "it needs 26 to 31, too", 26, 31);
        x.burn(1, 500);
        x.hold(2, 5);
        x.link(1, 2);
        checkCommon(x, "burns and holds count not", 26, 31);
        ZonePrint z = new ZonePrint();
        z.paper(2, 10);
        z.zone(0, 1);
        checkCommon(z, "a single time", 1, 1);
        ZonePrint y = new ZonePrint();
        y.zone(0, 10);
        checkCommon(y, "black", 81, 9999);
        y.zone(3, 10);
        checkCommon(y, "black, twice", 161, 9999);
        y.zone(9, 3);
        // 125 a tenth: 127.008 and 160.02, so that 128 to 160 are just too short.
        checkCommon(y, "161 is one too long", ZonePrint.NONE, ZonePrint.NONE);
        y.want(1, 9);
        checkCommon(y, "63520 / 500 and 160.02", 128, 160);
    }

    private static void checkCommon(ZonePrint x, String name, int least, int greatest) {
        checks.same("24: common(0), " + name, x.common(0), least);
        checks.same("24: common(1), " + name, x.common(1), greatest);
    }

    private static void rightShare() {
        ZonePrint x = new ZonePrint();
        checks.same("25: without zones", x.rightShare(), 1.0);
        x.zone(0, 0);
        checks.same("25: none of one", x.rightShare(), 0.0);
        for (int zones = 2; zones <= 8; zones++) {
            x.zone(6, 4);
            checks.same("25: all but one of " + zones, x.rightShare(), (zones - 1) / (double) zones);
        }
        x.want(0, 10);
        checks.same("25: all of eight", x.rightShare(), 1.0);
    }

    private static void digest() {
        checks.same("26: a new object", new ZonePrint().digest(), hashOf(new ZonePrint(), ""));
        String[] texts = {
            "z0=5", "z0=5;z6=5;z3=3;n01;n12;b1:69;h0:1;t32", "z0=0;z3=4;z6=8;z9=1;z12=5;z15=9;z18=2;z21=6",
            "z6=4;z6=4;z6=0", "z6=4;z6=4;z6=4;z6=4;z6=4;z6=4;z0=0", "z24=10",
        };
        for (String text : texts) {
            ZonePrint x = new ZonePrint();
            Checks.type(x, text);
            checks.same("26: " + text + " in the buffer", x.digest(), hashOf(x, text));
            x.run();
            checks.same("26: " + text, x.digest(), hashOf(x, ""));
            Checks.type(x, "~!");
            x.set(33);
            x.paper(5, 77);
            x.set(44);
            x.undo();
            checks.same("26: " + text + " on other paper", x.digest(), hashOf(x, "~!", 33));
        }
        // A burn of 50 makes 101 of 51, just enough for tone 5, and 100 of 50, just too little.
        checkDigest("z6=5;t51", 100);
        checkDigest("z6=5;t50", 100);
        // The second mark is 99540, or 100296: the time 200 brings 100000, one more or less 500 more or less.
        checkDigest("z3=1", 790);
        checkDigest("z3=1", 796);
    }

    private static void checkDigest(String text, int speed) {
        ZonePrint x = new ZonePrint();
        Checks.type(x, text);
        x.run();
        x.paper(2, speed);
        checks.same("26: " + text + " at speed " + speed, x.digest(), hashOf(x, ""));
    }

    private static long hashOf(ZonePrint x, String buffer) {
        return hashOf(x, buffer, 10);
    }

    /** The list of promise 26, called method by method; the spill and the buffer can't be asked for. */
    private static long hashOf(ZonePrint x, String buffer, int spill) {
        long hash = 2879;
        for (int what = 0; what <= 11; what++) {
            hash = 31 * hash + x.count(what);
        }
        hash = 31 * hash + spill;
        for (int tone = 1; tone <= 10; tone++) {
            hash = 31 * hash + x.mark(tone);
        }
        for (int zone = 0; zone < x.count(0); zone++) {
            for (int what = 0; what <= 10; what++) {
                hash = 31 * hash + x.zoneOf(zone, what);
            }
            for (int what = 0; what <= 3; what++) {
                hash = 31 * hash + x.strip(zone, 10, 9, what);
            }
            hash = 31 * hash + x.ifBurned(zone, 50, 0);
            hash = 31 * hash + x.ifBurned(zone, 50, 1);
        }
        hash = 31 * hash + x.ifExposed(200, 0);
        hash = 31 * hash + x.ifExposed(200, 1);
        hash = 31 * hash + x.bestTime();
        hash = 31 * hash + x.bestGrade();
        hash = 31 * hash + x.common(0);
        hash = 31 * hash + x.common(1);
        hash = 31 * hash + Double.doubleToLongBits(x.rightShare());
        hash = 31 * hash + buffer.length();
        for (int place = 0; place < buffer.length(); place++) {
            hash = 31 * hash + buffer.charAt(place);
        }
        return hash;
    }

    private static void digestSeesAll() {
        ZonePrint x = three();
        long before = x.digest();
        checks.same("26: twice the same", x.digest(), before);
        x.append('z');
        checks.isTrue("26: the buffer is in it", x.digest() != before);
        x.clearBuffer();
        checks.same("26: only what is in the buffer", x.digest(), before);
        x.set(10);
        checks.isTrue("26: the saved states are in it", x.digest() != before);
        checks.same("26: looking saves nothing", x.count(11), 4);
    }
}

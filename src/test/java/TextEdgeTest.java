/** "Input text", and promises 11 to 14: the boundary cases of the buffer and of a print as a text. */
public final class TextEdgeTest {
    private static final Checks checks = new Checks();

    public static void main(String[] args) {
        buffer();
        numbers();
        zones();
        rows();
        checks.test("Input text: each beginning of an order with each character behind it",
            TextEdgeTest::allBeginnings);
        running();
        stopping();
        saving();
        checks.end();
    }

    // ---- The buffer

    private static void buffer() {
        checks.test("Promise 11: the codes 33 to 126, the length from 1 to 60", () -> {
            ZonePrint x = new ZonePrint();
            ZonePrint y = new ZonePrint();
            for (int code = 33; code <= 92; code++) {
                checks.same("append(" + code + ")", x.append(code), code - 32);
            }
            for (int code = 67; code <= 126; code++) {
                checks.same("append(" + code + ")", y.append(code), code - 66);
            }
            checks.same("a full buffer is cleared", x.clearBuffer(), 60);
            checks.same("a full buffer is cleared", y.clearBuffer(), 60);
        });
        checks.test("Promise 11: the 60th character is taken, the 61st one is not, and clearing makes room", () -> {
            ZonePrint x = new ZonePrint();
            for (int length = 1; length <= 59; length++) {
                x.append('t');
            }
            checks.same("the 60th", x.append('1'), 60);
            checks.isTrue("the 61st", Checks.outcome(() -> x.append('1')).equals("IllegalStateException"));
            checks.same("clearBuffer()", x.clearBuffer(), 60);
            checks.same("the 1st again", x.append('1'), 1);
        });
        checks.test("Promise 11: appending is not undoable, and changes nothing but the buffer", () -> {
            ZonePrint x = Prints.of("z0=5");
            x.append('t');
            x.append('7');
            checks.same("saved states", x.count(11), 1);
            checks.same("undo()", x.undo(), 0);
            checks.same("the buffer is not undone", x.clearBuffer(), 2);
        });
        checks.test("Promise 12: returns the length that it had, 0 if it is empty", () -> {
            ZonePrint x = new ZonePrint();
            checks.same("of a new object", x.clearBuffer(), 0);
            x.append('!');
            checks.same("of one", x.clearBuffer(), 1);
            checks.same("of none", x.clearBuffer(), 0);
            checks.same("no error is left", x.firstError(), 0);
        });
        checks.test("Promise 12: clearing saves nothing", () -> {
            ZonePrint x = Prints.full();
            x.clearBuffer();
            checks.same("saved states", x.count(11), 6);
            x.expose(1);
            x.undo();
            checks.same("the buffer stays clear", x.clearBuffer(), 0);
        });
        checks.test("Promise 13: the length of the buffer if there is no error, 0 if it is empty", () -> {
            error("", 0);
            error("z", 1);
            error(Prints.FULL_BUFFER, 60);
        });
        checks.test("Promise 13: an error at the first and at the 60th character; the first one of several", () -> {
            error("1", 0);
            error(Prints.FULL_BUFFER.substring(0, 59) + "=", 59);
            error(Prints.FULL_BUFFER.substring(0, 59) + "~", 59);
            error("~" + Prints.FULL_BUFFER.substring(0, 59), 0);
            error("t0;z25;x", 1);
        });
        checks.test("Promise 13: finding an error changes nothing", () -> {
            ZonePrint x = Prints.some();
            Checks.type(x, "t0");
            ZonePrint y = Prints.some();
            Checks.type(y, "t0");
            checks.same("twice the same", x.firstError() * 10L + x.firstError(), 11);
            checks.sameAnswers("firstError()", x, y);
        });
    }

    private static void error(String text, int due) {
        ZonePrint x = new ZonePrint();
        Checks.type(x, text);
        checks.same("firstError() of " + text, x.firstError(), due);
    }

    /** A complete print as a text. */
    private static void complete(String... texts) {
        for (String text : texts) {
            error(text, text.length());
            ZonePrint x = new ZonePrint();
            Checks.type(x, text);
            checks.isTrue("run() of " + text, !Checks.outcome(x::run).contains("Exception"));
        }
    }

    /** A beginning of a print, to which something is missing. */
    private static void cutOff(String... texts) {
        for (String text : texts) {
            error(text, text.length());
            notRun(text);
        }
    }

    /** A text whose last character is the first error. */
    private static void wrongAtLast(String... texts) {
        for (String text : texts) {
            error(text, text.length() - 1);
            error(text + "1", text.length() - 1);
            notRun(text);
        }
    }

    private static void notRun(String text) {
        ZonePrint x = new ZonePrint();
        Checks.type(x, text);
        checks.isTrue("run() of " + text, Checks.outcome(x::run).equals("IllegalArgumentException"));
        checks.same("the buffer stays, " + text, x.clearBuffer(), text.length());
    }

    // ---- Orders

    private static void numbers() {
        checks.test("Input text: a density from 0 to 24", () -> {
            complete("z0=0", "z1=0", "z9=0", "z10=0", "z19=0", "z20=0", "z23=0", "z24=0");
            wrongAtLast("z25", "z26", "z29", "z30", "z90", "z100", "z240", "z-", "z=", "z;");
        });
        checks.test("Input text: a tone from 0 to 10", () -> {
            complete("z5=0", "z5=1", "z5=9", "z5=10");
            wrongAtLast("z5=11", "z5=12", "z5=19", "z5=20", "z5=90", "z5=100", "z5=-", "z5==", "z5=;");
        });
        checks.test("Input text: a time for all from 1 to 2000", () -> {
            complete("t1", "t9", "t10", "t99", "t100", "t999", "t1000", "t1999", "t2000", "t200", "t201", "t999");
            wrongAtLast("t0", "t2001", "t2009", "t2010", "t2100", "t3000", "t9999", "t10000", "t20000", "t;", "t-");
        });
        checks.test("Input text: a burn and a hold from 0 to 999", () -> {
            for (String order : new String[] {"b", "h"}) {
                complete(order + "0:0", order + "0:1", order + "0:9", order + "0:10", order + "0:99",
                    order + "0:100", order + "0:998", order + "0:999");
                wrongAtLast(order + "0:1000", order + "0:9990", order + "0:9999", order + "0:-", order + "0:;");
            }
        });
        checks.test("Input text: numbers are without leading zeros", () -> {
            wrongAtLast("z00", "z01", "z09", "z5=00", "z5=01", "z5=09", "t0", "b00", "h00");
            wrongAtLast("b0:00", "b0:01", "b7:09", "h0:00", "h0:05", "b01");
            complete("z0=0;b0:0;h0:0");
        });
        checks.test("Input text: what ends a number", () -> {
            wrongAtLast("z5:", "z5;", "z5z", "z5=5=", "z5=5z", "t5:", "t5=", "t5t", "b0=", "b0;", "b0:5:", "b0:5b");
            cutOff("z", "z5", "z5=", "t", "b", "b0", "b0:", "h", "h7", "h7:", "n", "n0");
        });
    }

    private static void zones() {
        checks.test("Input text: the zones of b and h are 0 to 7", () -> {
            for (String order : new String[] {"b", "h"}) {
                complete(order + "0:5", order + "1:5", order + "6:5", order + "7:5");
                wrongAtLast(order + "8", order + "9", order + ":", order + "-", order + "70", order + "10");
            }
        });
        checks.test("Input text: the zones of n are 0 to 7, the latter one greater", () -> {
            for (int one = 0; one <= 9; one++) {
                for (int other = 0; other <= 9; other++) {
                    String text = "n" + one + other;
                    boolean right = one < other && other <= 7;
                    // Behind 7 and more no zone can follow.
                    error(text, one >= 7 ? 1 : right ? 3 : 2);
                    if (right) {
                        complete(text);
                    } else {
                        notRun(text);
                    }
                }
            }
            wrongAtLast("n0:", "n0=", "n0;", "n;", "n017", "n01:", "n01=", "n0n", "n7", "n8");
        });
    }

    private static void rows() {
        checks.test("Input text: one or more orders with ; between them", () -> {
            complete("t1", "t1;t2", "z0=0;n01;t5;b0:1;h0:1");
            cutOff("", "t1;", "z0=0;n01;", "t1;t", "t1;n6", "t1;z24=");
            wrongAtLast(";", "t1;;", "t1;t2;;", "t1,", "t1;1", "z0=0z", "n01n", "b0:1b", "t1!");
        });
        checks.test("Input text: only the letters z, n, t, b and h begin an order", () -> {
            for (int code = 33; code <= 126; code++) {
                boolean letter = "zntbh".indexOf(code) >= 0;
                error("" + (char) code, letter ? 1 : 0);
                error("t5;" + (char) code, letter ? 4 : 3);
            }
        });
        checks.test("Input text: of any length, also one that the buffer could not hold", () -> {
            error(Prints.FULL_BUFFER.substring(0, 57) + "t1;", 60);
            error(Prints.FULL_BUFFER.substring(0, 57) + "b7:", 60);
            error("t11" + Prints.FULL_BUFFER.substring(2, 57) + "n6", 60);
        });
        checks.test("Input text: a complete print of 60 characters", () -> {
            String text = "t1" + ";t1".repeat(18) + ";t77";
            complete(text);
            ZonePrint x = Prints.of(text);
            checks.same("the last one counts", x.count(1), 77);
        });
    }

    /** Each text with which an order begins, and one character more: an error if no order begins so, or ends there. */
    private static void allBeginnings() {
        for (String beginning : PlainPrint.BEGINNINGS) {
            ZonePrint x = new ZonePrint();
            for (int code = 33; code <= 126; code++) {
                // Some ten calls each: a print lasts for 512.
                x = code % 40 == 0 ? new ZonePrint() : x;
                String text = beginning + (char) code;
                Checks.type(x, text);
                int due = PlainPrint.beginsPrint(text) ? text.length() : beginning.length();
                if (x.firstError() != due) {
                    checks.same("firstError() of " + text, x.firstError(), due);
                }
            }
        }
        checks.isTrue("there are many of them", PlainPrint.BEGINNINGS.size() > 18000);
    }

    // ---- run

    private static void running() {
        checks.test("Promise 14: returns how many are done, and clears the buffer", () -> {
            ZonePrint x = new ZonePrint();
            Checks.type(x, "z24=10;z0=0;n01;t2000;b1:999;h0:999");
            checks.same("run()", x.run(), 6);
            checks.same("the buffer", x.clearBuffer(), 0);
            checks.same("zones", x.count(0), 2);
            checks.same("density", x.zoneOf(0, 0), 24);
            checks.same("wanted", x.zoneOf(0, 1), 10);
            checks.same("neighbours", x.zoneOf(1, 7), 1);
            checks.same("time", x.count(1), 2000);
            checks.same("burn", x.zoneOf(1, 2), 999);
            checks.same("hold", x.zoneOf(0, 3), 999);
        });
        checks.test("Promise 14: orders of the least numbers", () -> {
            ZonePrint x = Prints.of("z5=5;b0:9;h0:9");
            Checks.type(x, "t1;b0:0;h0:0;z0=0");
            checks.same("run()", x.run(), 4);
            checks.same("time", x.count(1), 1);
            checks.same("burn", x.zoneOf(0, 2), 0);
            checks.same("hold", x.zoneOf(0, 3), 0);
            checks.same("density", x.zoneOf(1, 0), 0);
        });
        checks.test("Promise 14: n makes neighbours, also if they are already", () -> {
            ZonePrint x = Prints.of("z0=0;z0=0;z0=0");
            for (int time = 1; time <= 2; time++) {
                Checks.type(x, "n01;n01;n12");
                checks.same("run()", x.run(), 3);
                checks.same("pairs", x.count(10), 2);
            }
            checks.same("link(0, 1) parts them", x.link(0, 1), 0);
            Checks.type(x, "n01");
            checks.same("run()", x.run(), 1);
            checks.same("neighbours again", x.zoneOf(1, 7), 5);
        });
        checks.test("Promise 14: a zone of the same text is there for the orders behind it", () -> {
            ZonePrint x = new ZonePrint();
            Checks.type(x, "z1=1;b0:1;z2=2;n01;h1:2");
            checks.same("run()", x.run(), 5);
        });
        checks.test("Promise 14: a new zone has no old burns, holds and neighbours", () -> {
            ZonePrint x = Prints.of("z1=1;z2=2;n01;b1:9;h1:8");
            x.undo();
            Checks.type(x, "z1=1;z2=2");
            x.run();
            checks.same("burns", x.count(7), 0);
            checks.same("holds", x.count(8), 0);
            checks.same("pairs", x.count(10), 0);
        });
    }

    private static void stopping() {
        checks.test("Promise 14: up to the first order whose zone is missing", () -> {
            stops("b0:5;t9", 0, 0, 0, 100);
            stops("h7:5;t9", 0, 0, 0, 100);
            stops("n01;t9", 0, 0, 0, 100);
            stops("t8;z0=0;b1:5;t9;z0=0", 0, 2, 1, 8);
            stops("t8;z0=0;h1:5;t9;z0=0", 0, 2, 1, 8);
            stops("t8;z0=0;n01;t9;z0=0", 0, 2, 1, 8);
            stops("t8;z0=0;z0=0;n12;t9", 0, 3, 2, 8);
            stops("t8;z0=0;z0=0;n23;t9", 0, 3, 2, 8);
            stops("t8;b7:999", 7, 1, 7, 8);
            stops("t8;n67", 7, 1, 7, 8);
        });
        checks.test("Promise 14: the last zone is there, the next one is not", () -> {
            stops("b6:1;h6:1;n06;t9", 7, 4, 7, 9);
            stops("b7:1;h7:1;n07;t9", 8, 4, 8, 9);
        });
        checks.test("Promise 14: up to the ninth zone", () -> {
            stops("z1=1;t9;z2=2;t10", 7, 2, 8, 9);
            stops("z1=1;t9", 8, 0, 8, 100);
            stops("t8;z1=1;t9", 8, 1, 8, 8);
            stops("z0=0" + ";z0=0".repeat(8) + ";t9", 0, 8, 8, 100);
        });
    }

    /** Runs a text on some zones: how many are done, and how many zones and which time there are behind it. */
    private static void stops(String text, int zones, int done, int zonesThen, int time) {
        ZonePrint x = new ZonePrint();
        for (int zone = 0; zone < zones; zone++) {
            x.zone(0, 0);
        }
        int saved = x.count(11);
        Checks.type(x, text);
        checks.same("run() of " + text, x.run(), done);
        checks.same("zones behind " + text, x.count(0), zonesThen);
        checks.same("time behind " + text, x.count(1), time);
        checks.same("the buffer is clear behind " + text, x.clearBuffer(), 0);
        checks.same("saved behind " + text, x.count(11), Math.min(6, saved + 1));
        x.undo();
        checks.same("zones, undone, " + text, x.count(0), zones);
        checks.same("time, undone, " + text, x.count(1), 100);
    }

    private static void saving() {
        checks.test("Promise 14: undoable, as one call", () -> {
            ZonePrint x = Prints.some();
            Checks.type(x, "t9;t8;z1=1;b0:1;h0:2;n02;t7;t6");
            long before = x.digest();
            checks.same("run()", x.run(), 8);
            checks.same("saved states", x.count(11), 5);
            checks.same("undo()", x.undo(), 4);
            Checks.type(x, "t9;t8;z1=1;b0:1;h0:2;n02;t7;t6");
            checks.same("digest(), with the text again", x.digest(), before);
        });
        checks.test("Promise 14: undoable, also if none is done", () -> {
            ZonePrint x = new ZonePrint();
            Checks.type(x, "b0:1");
            checks.same("run()", x.run(), 0);
            checks.same("saved states", x.count(11), 1);
            checks.same("undo()", x.undo(), 0);
            checks.same("the buffer is not undone", x.clearBuffer(), 0);
        });
        checks.test("Promise 14: the oldest of six is dropped for it, once", () -> {
            ZonePrint x = new ZonePrint();
            for (int time = 1; time <= 6; time++) {
                x.expose(time);
            }
            Checks.type(x, "t50;t60;b0:1;t70");
            checks.same("run()", x.run(), 2);
            checks.same("saved states", x.count(11), 6);
            for (int left = 5; left >= 0; left--) {
                checks.same("undo()", x.undo(), left);
                checks.same("the time", x.count(1), left + 1);
            }
        });
        checks.test("Promise 14: a refused run leaves buffer, print and saved states", () -> {
            ZonePrint x = Prints.some();
            Checks.type(x, "t9;");
            for (int time = 0; time < 3; time++) {
                checks.isTrue("run()", Checks.outcome(x::run).equals("IllegalArgumentException"));
            }
            checks.same("saved states", x.count(11), 4);
            checks.same("append()", x.append('t'), 4);
            checks.same("append()", x.append('8'), 5);
            checks.same("run() of all of it", x.run(), 2);
            checks.same("the time", x.count(1), 8);
        });
    }
}

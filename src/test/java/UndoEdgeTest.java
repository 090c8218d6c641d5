/** "Undo", and promise 15: the boundary cases of saved states. */
public final class UndoEdgeTest {
    private static final Checks checks = new Checks();

    private static final String[] NAMES = {
        "zone", "want", "link", "expose", "burn", "hold", "paper", "plan", "set", "run",
    };

    /** Each method that is marked undoable, with a change to Prints.some() that can be seen. */
    private static final Checks.PrintCall[] CHANGES = {
        x -> x.zone(24, 10), x -> x.want(2, 9), x -> x.link(2, 0), x -> x.expose(2000), x -> x.burn(2, 999),
        x -> x.hold(2, 999), x -> x.paper(5, 999), x -> x.plan(), x -> x.set(50), x -> run(x, "h1:5;t44"),
    };

    /** The same methods, where they can leave the print as it is. */
    private static final Checks.PrintCall[] NO_CHANGES = {
        x -> x.want(2, 3), x -> x.expose(32), x -> x.burn(1, 69), x -> x.hold(0, 1), x -> x.paper(3, 90),
        x -> x.set(33), x -> run(x, "t32;b1:69;n01"), x -> run(x, "b7:9"),
    };

    public static void main(String[] args) {
        saved();
        notSaved();
        atMostSix();
        restored();
        checks.end();
    }

    private static long run(ZonePrint x, String text) {
        Checks.type(x, text);
        return x.run();
    }

    /** Prints.some() with an empty buffer. */
    private static ZonePrint some() {
        ZonePrint x = Prints.some();
        x.clearBuffer();
        return x;
    }

    private static ZonePrint eight() {
        ZonePrint x = Prints.of("z0=0;z3=4;z6=8;z9=1;z12=5;z15=9;z18=2;z21=6;n67;b7:99;h7:9");
        x.set(25);
        return x;
    }

    private static void saved() {
        for (int change = 0; change < CHANGES.length; change++) {
            Checks.PrintCall call = CHANGES[change];
            checks.test("Undo: " + NAMES[change] + " saves the state from before it", () -> {
                ZonePrint x = some();
                long before = x.digest();
                call.answer(x);
                checks.same("saved states", x.count(11), 5);
                x.set(10);
                checks.same("undo() of one more", x.undo(), 5);
                checks.same("undo()", x.undo(), 4);
                checks.same("digest()", x.digest(), before);
                checks.sameAnswers("undone", x, some());
            });
        }
        checks.test("Undo: also a call that changes nothing saves", () -> {
            for (int change = 0; change < NO_CHANGES.length; change++) {
                ZonePrint x = some();
                long before = x.digest();
                NO_CHANGES[change].answer(x);
                checks.same("saved states behind " + change, x.count(11), 5);
                checks.same("undo()", x.undo(), 4);
                checks.same("digest()", x.digest(), before);
            }
            ZonePrint y = some();
            y.plan();
            y.plan();
            checks.same("saved states behind two plans", y.count(11), 6);
        });
    }

    private static void notSaved() {
        checks.test("Undo: looks save nothing and change nothing", () -> {
            for (int print = 0; print < 3; print++) {
                ZonePrint x = one(print);
                look(x);
                checks.sameAnswers("looks", x, one(print));
            }
        });
        checks.test("Undo: append, clearBuffer and firstError save nothing", () -> {
            ZonePrint x = some();
            x.append('t');
            x.append('4');
            x.firstError();
            x.clearBuffer();
            checks.sameAnswers("the buffer", x, some());
        });
        checks.test("Undo: undo saves nothing, so that nothing is done again", () -> {
            ZonePrint x = new ZonePrint();
            x.expose(11);
            x.expose(12);
            checks.same("undo()", x.undo(), 1);
            checks.same("the time", x.count(1), 11);
            checks.same("undo()", x.undo(), 0);
            checks.same("the time", x.count(1), 100);
            checks.isTrue("undo()", Checks.outcome(x::undo).equals("IllegalStateException"));
            checks.same("the time", x.count(1), 100);
        });
    }

    private static ZonePrint one(int print) {
        return print == 0 ? Prints.empty() : print == 1 ? Prints.some() : Prints.full();
    }

    private static void look(ZonePrint x) {
        for (int what = 0; what <= 11; what++) {
            x.count(what);
        }
        for (int zone = 0; zone < x.count(0); zone++) {
            x.zoneOf(zone, 4);
            x.zoneOf(zone, 8);
            x.zoneOf(zone, 10);
            x.strip(zone, 999, 9, 0);
            x.ifBurned(zone, 999, 0);
            x.ifBurned(zone, 0, 1);
        }
        x.mark(10);
        x.ifExposed(2000, 0);
        x.ifExposed(1, 1);
        x.bestTime();
        x.bestGrade();
        x.common(0);
        x.common(1);
        x.rightShare();
        x.firstError();
        x.digest();
    }

    private static void atMostSix() {
        checks.test("Undo: at most 6 states are saved, the oldest one is dropped first", () -> {
            for (int changes = 1; changes <= 20; changes++) {
                ZonePrint x = new ZonePrint();
                for (int time = 1; time <= changes; time++) {
                    x.expose(time);
                }
                int saved = Math.min(changes, 6);
                checks.same("saved states behind " + changes, x.count(11), saved);
                for (int undone = 1; undone <= saved; undone++) {
                    checks.same("undo() of " + changes, x.undo(), saved - undone);
                    checks.same("the time", x.count(1), changes == undone ? 100 : changes - undone);
                }
                checks.isTrue("one undo() more", Checks.outcome(x::undo).equals("IllegalStateException"));
            }
        });
        for (int change = 0; change < CHANGES.length; change++) {
            Checks.PrintCall call = CHANGES[change];
            checks.test("Undo: " + NAMES[change] + " as the seventh drops the oldest", () -> {
                ZonePrint x = some();
                x.expose(5);
                x.expose(6);
                checks.same("saved states", x.count(11), 6);
                call.answer(x);
                checks.same("saved states", x.count(11), 6);
                for (int left = 5; left >= 0; left--) {
                    checks.same("undo()", x.undo(), left);
                }
                // The oldest one was the print without zones, before Prints.some() ran its text.
                checks.same("zones", x.count(0), 3);
                checks.same("pairs", x.count(10), 1);
            });
        }
        checks.test("Undo: states that were dropped by undo make room, round and round", () -> {
            ZonePrint x = new ZonePrint();
            for (int round = 0; round < 10; round++) {
                for (int time = 1; time <= 8; time++) {
                    x.expose(100 * (round + 1) + time);
                }
                checks.same("saved states", x.count(11), 6);
                for (int undone = 1; undone <= 4; undone++) {
                    checks.same("undo()", x.undo(), 6 - undone);
                    checks.same("the time", x.count(1), 100 * (round + 1) + 8 - undone);
                }
            }
        });
    }

    private static void restored() {
        checks.test("Promise 15: returns how many are left, 5 to 0", () -> {
            ZonePrint x = Prints.full();
            for (int left = 5; left >= 0; left--) {
                checks.same("undo()", x.undo(), left);
                checks.same("count(11)", x.count(11), left);
            }
        });
        checks.test("Promise 15: restores the whole print, one state after the other", () -> {
            ZonePrint x = Prints.of("z1=1;z2=2;z3=3;n01;b0:9;h1:8;t7");
            long[] digests = new long[6];
            x.undo();
            run(x, "z1=1;z2=2;z3=3;n01;b0:9;h1:8;t7");
            Checks.PrintCall[] calls = {CHANGES[0], CHANGES[2], CHANGES[6], CHANGES[7], CHANGES[8]};
            for (int call = 0; call < calls.length; call++) {
                digests[call] = x.digest();
                calls[call].answer(x);
            }
            for (int call = calls.length - 1; call >= 0; call--) {
                checks.same("undo()", x.undo(), call + 1);
                checks.same("digest()", x.digest(), digests[call]);
            }
            checks.same("undo()", x.undo(), 0);
            checks.same("digest()", x.digest(), new ZonePrint().digest());
        });
        checks.test("Promise 15: restores all of eight zones", () -> {
            Checks.PrintCall[] calls = {
                x -> x.want(7, 1), x -> x.link(6, 7), x -> x.expose(1), x -> x.burn(7, 1), x -> x.hold(7, 1),
                x -> x.paper(0, 10), x -> x.plan(), x -> x.set(0), x -> run(x, "b7:2;h0:3;n01;t9"),
            };
            for (Checks.PrintCall call : calls) {
                ZonePrint x = eight();
                call.answer(x);
                checks.same("undo()", x.undo(), 2);
                checks.sameAnswers("undone", x, eight());
            }
        });
        checks.test("Promise 15: neither the buffer nor its clearing is undone", () -> {
            ZonePrint x = new ZonePrint();
            Checks.type(x, "t55");
            x.expose(9);
            x.append('5');
            checks.same("undo()", x.undo(), 0);
            checks.same("firstError()", x.firstError(), 4);
            checks.same("run()", x.run(), 1);
            checks.same("undo()", x.undo(), 0);
            checks.same("clearBuffer()", x.clearBuffer(), 0);
        });
        checks.test("Promise 15: a zone that is added again behind it is a new one", () -> {
            ZonePrint x = Prints.of("z1=1;z2=2");
            x.zone(3, 3);
            run(x, "n02;n12;b2:9;h2:8");
            x.undo();
            x.undo();
            checks.same("zone()", x.zone(4, 4), 2);
            int[] due = {4, 4, 0, 0, 100};
            for (int what = 0; what < due.length; what++) {
                checks.same("zoneOf(2, " + what + ")", x.zoneOf(2, what), due[what]);
            }
            checks.same("its neighbours", x.zoneOf(2, 7), 0);
            checks.same("neighbours of 0", x.zoneOf(0, 7), 0);
            checks.same("what spills onto 0", x.zoneOf(0, 10), 0);
        });
        checks.test("Promise 15: room for an eighth zone behind it", () -> {
            ZonePrint x = Prints.of("z1=1;z1=1;z1=1;z1=1;z1=1;z1=1;z1=1");
            checks.same("zone()", x.zone(1, 1), 7);
            checks.isTrue("a ninth", Checks.outcome(() -> x.zone(1, 1)).equals("IllegalStateException"));
            checks.same("undo()", x.undo(), 1);
            checks.same("zone()", x.zone(2, 2), 7);
        });
    }
}

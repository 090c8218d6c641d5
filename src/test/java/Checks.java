import java.util.List;
import java.util.function.Supplier;

/** Counts the checks of one test class, prints each that fails, and ends the run with 1 if one did. */
final class Checks {
    /** A call whose answer is looked at. */
    interface Call {
        long answer();
    }

    /** A call on a print that is handed to it. */
    interface PrintCall {
        long answer(ZonePrint print);
    }

    private int wrong;
    private int made;
    private int tests;
    /** The test that runs now, told ahead of what fails in it. */
    private String running = "";

    /** A test of its own, under the name of its promise or of its section of "Terms". */
    void test(String name, Runnable body) {
        tests++;
        running = name + " - ";
        try {
            body.run();
        } catch (RuntimeException e) {
            fail("threw " + e);
        }
        running = "";
    }

    void same(String what, long got, long due) {
        made++;
        if (got != due) {
            fail(what + " answered " + got + ", due is " + due);
        }
    }

    void same(String what, double got, double due) {
        made++;
        if (got != due) {
            fail(what + " answered " + got + ", due is " + due);
        }
    }

    /** The call throws exactly this exception, and leaves the print as it was, buffer and saved states too. */
    void thrown(String what, ZonePrint print, Class<? extends RuntimeException> due, Call call) {
        long before = print.digest();
        made++;
        String got = outcome(call);
        if (!got.equals(due.getSimpleName())) {
            fail(what + " answered " + got + ", due is " + due.getSimpleName());
        }
        same(what + ": digest behind it", print.digest(), before);
    }

    /**
     * The call throws exactly this exception, and leaves every answer as it was: a second print, made in the
     * same way but without the call, answers the same, and goes on to do so while all is undone.
     */
    void refused(String what, Supplier<ZonePrint> maker, Class<? extends RuntimeException> due, PrintCall call) {
        ZonePrint print = maker.get();
        made++;
        String got = outcome(() -> call.answer(print));
        if (!got.equals(due.getSimpleName())) {
            fail(what + " answered " + got + ", due is " + due.getSimpleName());
        }
        sameAnswers(what, print, maker.get());
    }

    /** Both prints answer every look alike, and so does what both have saved. Uses both of them up. */
    void sameAnswers(String what, ZonePrint print, ZonePrint due) {
        made++;
        List<String> got = Answers.of(print);
        List<String> all = Answers.of(due);
        for (int place = 0; place < got.size() && place < all.size(); place++) {
            if (!got.get(place).equals(all.get(place))) {
                fail(what + ": behind it " + got.get(place) + ", due is " + all.get(place));
                return;
            }
        }
        if (got.size() != all.size()) {
            fail(what + ": behind it " + got.size() + " answers, due are " + all.size());
        }
    }

    void isTrue(String what, boolean holds) {
        made++;
        if (!holds) {
            fail(what);
        }
    }

    void end() {
        String counted = tests == 0 ? "" : tests + " tests, ";
        System.out.println(counted + made + " checks, " + wrong + " wrong");
        if (wrong != 0) {
            System.exit(1);
        }
    }

    /** The answer of a call as a text, or the simple name of what it throws. */
    static String outcome(Call call) {
        try {
            return Long.toString(call.answer());
        } catch (RuntimeException e) {
            return e.getClass().getSimpleName();
        }
    }

    /** Puts a text into an empty buffer. */
    static void type(ZonePrint print, String text) {
        print.clearBuffer();
        for (int place = 0; place < text.length(); place++) {
            print.append(text.charAt(place));
        }
    }

    private void fail(String line) {
        wrong++;
        if (wrong <= 40) {
            System.out.println(running + line);
        }
    }
}

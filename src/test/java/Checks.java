/** Counts the checks of one test class, prints each that fails, and ends the run with 1 if one did. */
final class Checks {
    /** A call whose answer is looked at. */
    interface Call {
        long answer();
    }

    private int wrong;
    private int made;

    void same(String what, long got, long due) {
        made++;
        if (got != due) {
            fail(what + " answered " + got + ", due is " + due);
        }
    }

    void same(String what, double got, double due) {
        made++;
        if (got != due) {
            fail(what + " answered " + got + ", due is " + due);
        }
    }

    /** The call throws exactly this exception, and leaves the print as it was, buffer and saved states too. */
    void thrown(String what, ZonePrint print, Class<? extends RuntimeException> due, Call call) {
        long before = print.digest();
        made++;
        String got = outcome(call);
        if (!got.equals(due.getSimpleName())) {
            fail(what + " answered " + got + ", due is " + due.getSimpleName());
        }
        same(what + ": digest behind it", print.digest(), before);
    }

    void isTrue(String what, boolean holds) {
        made++;
        if (!holds) {
            fail(what);
        }
    }

    void end() {
        System.out.println(made + " checks, " + wrong + " wrong");
        if (wrong != 0) {
            System.exit(1);
        }
    }

    /** The answer of a call as a text, or the simple name of what it throws. */
    static String outcome(Call call) {
        try {
            return Long.toString(call.answer());
        } catch (RuntimeException e) {
            return e.getClass().getSimpleName();
        }
    }

    /** Puts a text into an empty buffer. */
    static void type(ZonePrint print, String text) {
        print.clearBuffer();
        for (int place = 0; place < text.length(); place++) {
            print.append(text.charAt(place));
        }
    }

    private void fail(String line) {
        wrong++;
        if (wrong <= 40) {
            System.out.println(line);
        }
    }
}

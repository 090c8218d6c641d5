/** Prints that several tests begin with. */
final class Prints {
    /** 60 characters, and no complete print: an order must follow the last ";". */
    static final String FULL_BUFFER = "t1;".repeat(20);

    private Prints() {
    }

    /** No zones, an empty buffer, no saved state. */
    static ZonePrint empty() {
        return new ZonePrint();
    }

    /** Three zones, a buffer that can't be run, four saved states. */
    static ZonePrint some() {
        ZonePrint x = of("z0=5;z6=5;z3=3;n01;b1:69;h0:1;t32");
        x.link(1, 2);
        x.set(33);
        x.paper(3, 90);
        Checks.type(x, "t5;z");
        return x;
    }

    /** Eight zones, sixty characters, six saved states. */
    static ZonePrint full() {
        ZonePrint x = of("z0=0;z3=4;z6=8;z9=1;z12=5;z15=9;z18=2;z21=6;n01;n12;b0:9");
        x.link(3, 7);
        x.burn(7, 555);
        x.hold(2, 44);
        x.want(4, 6);
        x.set(21);
        x.paper(4, 77);
        x.expose(150);
        Checks.type(x, FULL_BUFFER);
        return x;
    }

    /** What a text makes of a new print, with one saved state. */
    static ZonePrint of(String text) {
        ZonePrint x = new ZonePrint();
        Checks.type(x, text);
        x.run();
        return x;
    }

    /** What a text makes of a new print, on a paper of one's own, with two saved states. */
    static ZonePrint of(String text, int grade, int speed) {
        ZonePrint x = of(text);
        x.paper(grade, speed);
        return x;
    }
}

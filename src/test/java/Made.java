/** Objects for the tests; one maker's objects are all alike, so one can be the other's twin. */
final class Made {
    interface Maker {
        SelfChecks make();
    }

    /** Of unlike sizes, pasts and texts; what a call refuses has to be refused on all of them. */
    static final Maker[] ALL = {SelfChecks::new, Made::least, Made::busy, Made::full};
    static final String[] NAMES = {"new", "least", "busy", "full"};

    private Made() { }

    /** One input, no gates, nothing to undo, no text. */
    static SelfChecks least() {
        return Due.laid("n1;");
    }

    /** Seven changes of all kinds, so that the oldest is forgotten; a text of another circuit. */
    static SelfChecks busy() {
        SelfChecks x = Due.laid("n4;g2,0,1;g3,2,4;g1,5,3;o6,5;c1,2;");
        x.rails(4, 6);
        x.gate(1, 4, 4, 2);
        x.add(0, 6, 1);
        x.code(2, 3);
        x.build(2);
        x.add(5, 3, 9);
        x.rails(10, 2);
        Due.type(x, "n3;g1,0,2;o3,1;c2,2;");
        return x;
    }

    /** Eight inputs, 24 gates, six changes, 200 letters. */
    static SelfChecks full() {
        SelfChecks x = sized(8, 18);
        for (int g = 18; g < 24; g++) {
            x.add(g % 6, 7 + g, g);
        }
        Due.type(x, fullText());
        return x;
    }

    /** 200 letters without a fault. */
    static String fullText() {
        return "n8;" + "o0,0;".repeat(37) + "g1,2,3;" + "o8,2;";
    }

    /** So many inputs and gates, all laid; gate g is 1 by all words where g is even, else 0. */
    static SelfChecks sized(int inputs, int gates) {
        StringBuilder text = new StringBuilder("n" + inputs + ";");
        for (int g = 0; g < gates; g++) {
            text.append(g % 2 == 0 ? "g5,0,0;" : "g2,0,0;");
        }
        return Due.laid(text.toString());
    }

    static int wires(SelfChecks x) {
        return x.count(0) + x.count(1);
    }

    static int words(SelfChecks x) {
        return 1 << x.count(0);
    }

    static int stucks(SelfChecks x) {
        return 2 * wires(x);
    }
}

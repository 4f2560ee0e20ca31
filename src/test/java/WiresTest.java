/** Promises 12 to 14: gateOf, wire, out. */
public final class WiresTest {
    private static final Due due = new Due();
    private static final int MIN = Integer.MIN_VALUE;
    private static final int MAX = Integer.MAX_VALUE;

    public static void main(String[] args) {
        gateOf();
        kindsOfGates();
        oneWireTwice();
        wireRefused();
        outWithout();
        outWithStucks();
        outRefused();
        widest();
        due.end();
    }

    private static void gateOf() {
        SelfChecks x = Due.laid("n2;g0,0,1;g5,2,2;g4,2,3;g3,3,2;o5,5;");
        int[][] want = {{0, 0, 1, 3}, {5, 2, 2, 2}, {4, 2, 3, 0}, {3, 3, 2, 0}};
        for (int g = 0; g < want.length; g++) {
            for (int what = 0; what < 4; what++) {
                due.same("gateOf(" + g + ", " + what + ")", x.gateOf(g, what), want[g][what]);
            }
        }
        due.same("gateOf(4, 0)", x.gateOf(4, 0), SelfChecks.BAD);
        due.same("gateOf(-1, 0)", x.gateOf(-1, 0), SelfChecks.BAD);
        due.same("gateOf(0, 4)", x.gateOf(0, 4), SelfChecks.BAD);
        due.same("gateOf(0, -1)", x.gateOf(0, -1), SelfChecks.BAD);
        due.same("gateOf(MAX, MAX)", x.gateOf(MAX, MAX), SelfChecks.BAD);
        due.same("gateOf(MIN, MIN)", x.gateOf(MIN, MIN), SelfChecks.BAD);
        due.same("gateOf where there is none", Due.laid("n2;").gateOf(0, 0), SelfChecks.BAD);
        x.gate(1, 5, 0, 0);
        due.same("one reader less", x.gateOf(0, 3), 2);
    }

    /** Each kind's values by the words 00, 01, 10, 11. */
    private static void kindsOfGates() {
        int[][] want = {{0, 0, 0, 1}, {0, 1, 1, 1}, {0, 1, 1, 0},
                {1, 1, 1, 0}, {1, 0, 0, 0}, {1, 0, 0, 1}};
        for (int kind = 0; kind < 6; kind++) {
            SelfChecks x = Due.laid("n2;g" + kind + ",0,1;");
            for (int word = 0; word < 4; word++) {
                due.same("kind " + kind + " by " + word, x.wire(word, 2), want[kind][word]);
                due.same("input 0", x.wire(word, 0), word & 1);
                due.same("input 1", x.wire(word, 1), word >> 1);
            }
        }
    }

    private static void oneWireTwice() {
        int[][] want = {{0, 1}, {0, 1}, {0, 0}, {1, 0}, {1, 0}, {1, 1}};
        for (int kind = 0; kind < 6; kind++) {
            SelfChecks x = Due.laid("n1;g" + kind + ",0,0;");
            due.same("kind " + kind + " of 0 twice", x.wire(0, 1), want[kind][0]);
            due.same("kind " + kind + " of 1 twice", x.wire(1, 1), want[kind][1]);
        }
    }

    private static void wireRefused() {
        SelfChecks x = Due.laid("n2;g2,0,1;");
        due.same("wire(4, 0)", x.wire(4, 0), SelfChecks.BAD);
        due.same("wire(-1, 0)", x.wire(-1, 0), SelfChecks.BAD);
        due.same("wire(0, 3)", x.wire(0, 3), SelfChecks.BAD);
        due.same("wire(0, -1)", x.wire(0, -1), SelfChecks.BAD);
        due.same("wire(MAX, MAX)", x.wire(MAX, MAX), SelfChecks.BAD);
        due.same("wire(MIN, MIN)", x.wire(MIN, MIN), SelfChecks.BAD);
    }

    private static void outWithout() {
        SelfChecks x = Due.laid("n2;o1,0;c1,1;");
        int[] want = {0, 1, 2, 3};
        for (int word = 0; word < 4; word++) {
            due.same("out of " + word, x.out(word, -1), want[word]);
        }
    }

    /** NOT of input 0 goes to an UNLIKE with input 1; the rails are that one and the NOT. */
    private static void outWithStucks() {
        SelfChecks x = Due.laid("n2;g3,0,0;g2,2,1;o3,2;c3,0;");
        int[][] want = {
            // by word 0, 1, 2, 3: NOT is 1 0 1 0, UNLIKE is 1 0 0 1
            {3, 3, 1, 1}, {0, 0, 2, 2},
            {3, 0, 3, 0}, {1, 2, 1, 2},
            {0, 0, 2, 2}, {3, 3, 1, 1},
            {1, 0, 1, 0}, {3, 2, 3, 2}};
        for (int s = 0; s < want.length; s++) {
            for (int word = 0; word < 4; word++) {
                due.same("out(" + word + ", " + s + ")", x.out(word, s), want[s][word]);
            }
        }
        int[] plain = {3, 0, 1, 2};
        for (int word = 0; word < 4; word++) {
            due.same("out(" + word + ", -1)", x.out(word, -1), plain[word]);
        }
    }

    private static void outRefused() {
        SelfChecks x = Due.laid("n2;g2,0,1;");
        due.same("out(4, -1)", x.out(4, -1), SelfChecks.BAD);
        due.same("out(-1, -1)", x.out(-1, -1), SelfChecks.BAD);
        due.same("out(0, -2)", x.out(0, -2), SelfChecks.BAD);
        due.same("out(0, 6)", x.out(0, 6), SelfChecks.BAD);
        due.same("out(0, 5)", x.out(0, 5), 0);
        due.same("out(MAX, MAX)", x.out(MAX, MAX), SelfChecks.BAD);
        due.same("out(MIN, MIN)", x.out(MIN, MIN), SelfChecks.BAD);
    }

    /** 32 wires: a chain of NOTs behind input 7, so that wire 31 is input 7 again. */
    private static void widest() {
        SelfChecks x = Due.laid("n8;");
        for (int g = 0; g < 24; g++) {
            x.add(4, 7 + g, 7 + g);
        }
        due.same("gateOf(0, 3) with 24 gates", x.gateOf(0, 3), 1);
        due.same("gateOf(23, 3)", x.gateOf(23, 3), 0);
        x.rails(31, 30);
        due.same("wire(128, 31)", x.wire(128, 31), 1);
        due.same("wire(127, 31)", x.wire(127, 31), 0);
        due.same("wire(255, 30)", x.wire(255, 30), 0);
        due.same("wire(256, 31)", x.wire(256, 31), SelfChecks.BAD);
        due.same("wire(0, 32)", x.wire(0, 32), SelfChecks.BAD);
        due.same("out(0, -1)", x.out(0, -1), 1);
        due.same("out(0, 62)", x.out(0, 62), 1);
        due.same("out(0, 63)", x.out(0, 63), 3);
        due.same("out(128, 62)", x.out(128, 62), 0);
        due.same("out(128, 63)", x.out(128, 63), 2);
        due.same("out(128, 60)", x.out(128, 60), 2);
        due.same("out(128, 61)", x.out(128, 61), 1);
        due.same("out(128, 64)", x.out(128, 64), SelfChecks.BAD);
    }
}

/** Promises 6 to 11: gate, add, rails, code, build, undo. */
public final class ChangesTest {
    private static final Due due = new Due();
    private static final int MIN = Integer.MIN_VALUE;
    private static final int MAX = Integer.MAX_VALUE;

    public static void main(String[] args) {
        gate();
        gateRefused();
        add();
        addFull();
        rails();
        code();
        codeRefused();
        build();
        undoOfEachChange();
        undoSixAtMost();
        changesShowAtOnce();
        due.end();
    }

    private static void refused(SelfChecks x, String call, int got, int want, String ahead) {
        due.same(call, got, want);
        due.holds(call + " changes nothing", ahead.equals(Due.state(x)));
    }

    private static void gate() {
        SelfChecks x = Due.laid("n2;g0,0,1;g4,2,1;");
        due.same("gate(0, 5, 1, 1)", x.gate(0, 5, 1, 1), 0);
        due.same("its kind", x.gateOf(0, 0), 5);
        due.same("its first", x.gateOf(0, 1), 1);
        due.same("its second", x.gateOf(0, 2), 1);
        due.same("gate(1, 4, 1, 2): in the other order", x.gate(1, 4, 1, 2), 4);
        due.same("its first now", x.gateOf(1, 1), 1);
        due.same("its second now", x.gateOf(1, 2), 2);
        due.same("gate(1, 0, 1, 2)", x.gate(1, 0, 1, 2), 4);
        due.same("three changes", x.count(7), 3);
    }

    private static void gateRefused() {
        SelfChecks x = Due.laid("n2;g0,0,1;g4,2,1;");
        String ahead = Due.state(x);
        refused(x, "gate as it is", x.gate(1, 4, 2, 1), SelfChecks.NO, ahead);
        refused(x, "gate(2)", x.gate(2, 0, 0, 0), SelfChecks.BAD, ahead);
        refused(x, "gate(-1)", x.gate(-1, 0, 0, 0), SelfChecks.BAD, ahead);
        refused(x, "gate(MIN)", x.gate(MIN, 0, 0, 0), SelfChecks.BAD, ahead);
        refused(x, "gate(MAX)", x.gate(MAX, 0, 0, 0), SelfChecks.BAD, ahead);
        refused(x, "kind 6", x.gate(0, 6, 0, 0), SelfChecks.BAD, ahead);
        refused(x, "kind -1", x.gate(0, -1, 0, 0), SelfChecks.BAD, ahead);
        refused(x, "its own wire first", x.gate(0, 0, 2, 0), SelfChecks.BAD, ahead);
        refused(x, "its own wire second", x.gate(0, 0, 0, 2), SelfChecks.BAD, ahead);
        refused(x, "a wire behind", x.gate(0, 0, 3, 0), SelfChecks.BAD, ahead);
        refused(x, "wire -1 first", x.gate(1, 0, -1, 0), SelfChecks.BAD, ahead);
        refused(x, "wire -1 second", x.gate(1, 0, 0, -1), SelfChecks.BAD, ahead);
        refused(x, "wire MAX", x.gate(1, 0, MAX, MAX), SelfChecks.BAD, ahead);
        due.same("wire ahead of gate 1", x.gate(1, 4, 2, 2), 4);
    }

    private static void add() {
        SelfChecks x = Due.laid("n2;");
        due.same("add(5, 0, 1)", x.add(5, 0, 1), 0);
        due.same("add(3, 2, 2)", x.add(3, 2, 2), 1);
        due.same("its kind", x.gateOf(1, 0), 3);
        due.same("its first", x.gateOf(1, 1), 2);
        due.same("its second", x.gateOf(1, 2), 2);
        due.same("gates", x.count(1), 2);
        due.same("two changes", x.count(7), 2);
        String ahead = Due.state(x);
        refused(x, "its own wire first", x.add(0, 4, 0), SelfChecks.BAD, ahead);
        refused(x, "its own wire second", x.add(0, 0, 4), SelfChecks.BAD, ahead);
        refused(x, "wire -1 first", x.add(0, -1, 0), SelfChecks.BAD, ahead);
        refused(x, "wire -1 second", x.add(0, 0, -1), SelfChecks.BAD, ahead);
        refused(x, "kind 6", x.add(6, 0, 0), SelfChecks.BAD, ahead);
        refused(x, "kind -1", x.add(-1, 0, 0), SelfChecks.BAD, ahead);
        refused(x, "MIN", x.add(MIN, MIN, MIN), SelfChecks.BAD, ahead);
        due.same("the rails stay", x.count(2), 0);
    }

    private static void addFull() {
        SelfChecks x = Due.laid("n8;");
        for (int g = 0; g < 24; g++) {
            due.same("add " + g, x.add(g % 6, 7 + g, 0), g);
        }
        String ahead = Due.state(x);
        refused(x, "the 25th", x.add(0, 31, 31), SelfChecks.FULL, ahead);
        refused(x, "a bad 25th", x.add(0, 32, 0), SelfChecks.BAD, ahead);
        refused(x, "a 25th of kind 6", x.add(6, 0, 0), SelfChecks.BAD, ahead);
        due.same("gate(23) told anew", x.gate(23, 1, 30, 29), 5);
    }

    private static void rails() {
        SelfChecks x = new SelfChecks();
        due.same("rails(9, 6)", x.rails(9, 6), 609);
        due.same("P", x.count(2), 9);
        due.same("Q", x.count(3), 6);
        due.same("rails(0, 0)", x.rails(0, 0), 906);
        due.same("rails(9, 9)", x.rails(9, 9), 0);
        due.same("rails(9, 0)", x.rails(9, 0), 909);
        String ahead = Due.state(x);
        refused(x, "rails as they are", x.rails(9, 0), SelfChecks.NO, ahead);
        refused(x, "rails(10, 0)", x.rails(10, 0), SelfChecks.BAD, ahead);
        refused(x, "rails(0, 10)", x.rails(0, 10), SelfChecks.BAD, ahead);
        refused(x, "rails(-1, 0)", x.rails(-1, 0), SelfChecks.BAD, ahead);
        refused(x, "rails(0, -1)", x.rails(0, -1), SelfChecks.BAD, ahead);
        refused(x, "rails(MAX, MIN)", x.rails(MAX, MIN), SelfChecks.BAD, ahead);
    }

    private static void code() {
        SelfChecks x = Due.laid("n6;");
        due.same("ONES 0", x.code(1, 0), 1);
        due.same("ONES 3", x.code(1, 3), 20);
        due.same("ONES 6", x.code(1, 6), 1);
        due.same("ZEROS 0", x.code(2, 0), 1);
        due.same("ZEROS 4", x.code(2, 4), 16);
        due.same("ZEROS 6", x.code(2, 6), 64);
        due.same("PAIRS", x.code(3, 0), 8);
        due.same("ALL", x.code(0, 0), 64);
        due.same("kind", x.count(4), 0);
        due.same("ONES 2", x.code(1, 2), 15);
        due.same("kind", x.count(4), 1);
        due.same("number", x.count(5), 2);
    }

    private static void codeRefused() {
        SelfChecks x = Due.laid("n3;c1,3;");
        String ahead = Due.state(x);
        refused(x, "code as it is", x.code(1, 3), SelfChecks.NO, ahead);
        refused(x, "ALL 1", x.code(0, 1), SelfChecks.BAD, ahead);
        refused(x, "ALL -1", x.code(0, -1), SelfChecks.BAD, ahead);
        refused(x, "ONES 4", x.code(1, 4), SelfChecks.BAD, ahead);
        refused(x, "ONES -1", x.code(1, -1), SelfChecks.BAD, ahead);
        refused(x, "ZEROS 4", x.code(2, 4), SelfChecks.BAD, ahead);
        refused(x, "ZEROS -1", x.code(2, -1), SelfChecks.BAD, ahead);
        refused(x, "PAIRS of three inputs", x.code(3, 0), SelfChecks.BAD, ahead);
        refused(x, "kind 4", x.code(4, 0), SelfChecks.BAD, ahead);
        refused(x, "kind -1", x.code(-1, 0), SelfChecks.BAD, ahead);
        refused(x, "MAX", x.code(MAX, MAX), SelfChecks.BAD, ahead);
        due.same("ZEROS 3 is another code", x.code(2, 3), 8);
        SelfChecks even = Due.laid("n4;c3,0;");
        refused(even, "PAIRS 1", even.code(3, 1), SelfChecks.BAD, Due.state(even));
        refused(even, "PAIRS as it is", even.code(3, 0), SelfChecks.NO, Due.state(even));
    }

    private static void built(int m, String asText) {
        SelfChecks x = Due.laid("n3;g2,0,1;o3,1;c1,1;");
        SelfChecks told = Due.laid(asText);
        due.same("build(" + m + ")", x.build(m), 6 * (m - 1));
        due.same("is one change", x.count(7), 1);
        due.holds("build(" + m + ") is as told",
                withoutChanges(x).equals(withoutChanges(told)));
    }

    /** The state but for count(7), which differs between what was built and what was laid. */
    private static String withoutChanges(SelfChecks x) {
        String[] parts = Due.state(x).split(" ");
        parts[7] = "-";
        return String.join(" ", parts);
    }

    private static void build() {
        built(1, "n2;o0,1;c3,0;");
        built(2, "n4;g0,0,2;g0,1,3;g1,4,5;g0,0,3;g0,1,2;g1,7,8;o6,9;c3,0;");
        built(3, "n6;g0,0,2;g0,1,3;g1,6,7;g0,0,3;g0,1,2;g1,9,10;"
                + "g0,8,4;g0,11,5;g1,12,13;g0,8,5;g0,11,4;g1,15,16;o14,17;c3,0;");
        built(4, "n8;g0,0,2;g0,1,3;g1,8,9;g0,0,3;g0,1,2;g1,11,12;"
                + "g0,10,4;g0,13,5;g1,14,15;g0,10,5;g0,13,4;g1,17,18;"
                + "g0,16,6;g0,19,7;g1,20,21;g0,16,7;g0,19,6;g1,23,24;o22,25;c3,0;");
        SelfChecks x = new SelfChecks();
        due.same("build(2) where it is so already", x.build(2), 6);
        due.same("is a change all the same", x.count(7), 1);
        String ahead = Due.state(x);
        refused(x, "build(0)", x.build(0), SelfChecks.BAD, ahead);
        refused(x, "build(5)", x.build(5), SelfChecks.BAD, ahead);
        refused(x, "build(-1)", x.build(-1), SelfChecks.BAD, ahead);
        refused(x, "build(MIN)", x.build(MIN), SelfChecks.BAD, ahead);
    }

    private static void undoOfEachChange() {
        SelfChecks x = new SelfChecks();
        String[] states = new String[6];
        states[0] = Due.state(x);
        x.gate(2, 4, 3, 1);
        states[1] = Due.state(x);
        x.add(2, 0, 9);
        states[2] = Due.state(x);
        x.rails(10, 2);
        states[3] = Due.state(x);
        x.code(2, 3);
        states[4] = Due.state(x);
        x.build(4);
        for (int left = 4; left >= 0; left--) {
            due.same("undo", x.undo(), left);
            due.holds("back to state " + left, states[left].equals(Due.state(x)));
        }
        String ahead = Due.state(x);
        refused(x, "undo of nothing", x.undo(), SelfChecks.NO, ahead);
    }

    private static void undoSixAtMost() {
        SelfChecks x = new SelfChecks();
        for (int q = 0; q < 9; q++) {
            x.rails(1, q);
            due.same("changes kept", x.count(7), Math.min(q + 1, 6));
        }
        for (int left = 5; left >= 0; left--) {
            due.same("undo", x.undo(), left);
            due.same("Q", x.count(3), left + 2);
        }
        due.same("undo of a seventh", x.undo(), SelfChecks.NO);
        x.rails(4, 4);
        x.rails(5, 5);
        due.same("undo of a new change", x.undo(), 1);
        due.same("P", x.count(2), 4);
        x.rails(6, 6);
        due.same("undo", x.undo(), 1);
        due.same("undo", x.undo(), 0);
        due.same("P", x.count(2), 1);
        due.same("Q", x.count(3), 2);
    }

    /** What was worked out ahead of a change must not be answered behind it. */
    private static void changesShowAtOnce() {
        SelfChecks x = Due.laid("n2;g3,0,0;o0,2;");
        due.same("valid words", x.count(6), 4);
        due.same("tests", x.test(-1), 2);
        x.gate(0, 0, 0, 0);
        due.same("valid words behind gate", x.count(6), 0);
        x.rails(0, 1);
        due.same("valid words behind rails", x.count(6), 2);
        due.same("near", x.near(), 1);
        x.code(3, 0);
        due.same("disjoint behind code", x.is(0), 1);
        due.same("near behind code", x.near(), 2);
        due.same("rank behind code", x.rank(2), 1);
        x.add(2, 0, 1);
        due.same("latent behind add", x.stucks(1), 4);
        due.same("not exposed behind add", x.stucks(0), 4);
        due.same("readers of gate 0", x.gateOf(0, 3), 0);
        x.add(2, 2, 2);
        due.same("readers of gate 0 behind add", x.gateOf(0, 3), 1);
        x.rails(4, 4);
        due.same("not exposed behind rails", x.stucks(0), 0);
        x.undo();
        due.same("not exposed behind undo", x.stucks(0), 6);
        x.undo();
        due.same("readers of gate 0 behind undo", x.gateOf(0, 3), 0);
        x.build(3);
        due.same("words behind build", x.word(-1), 8);
        due.same("tests behind build", x.test(-1), 4);
        x.undo();
        due.same("words behind undo", x.word(-1), 2);
        due.same("latent behind undo", x.stucks(1), 4);
        Due.type(x, "n1;");
        x.lay();
        due.same("words behind lay", x.word(-1), 2);
        due.same("missed behind lay", x.missed(), 2);
        due.same("valid words behind lay", x.count(6), 0);
    }
}

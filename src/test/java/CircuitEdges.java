/** What the document says of inputs, gates, wires, rails and words ahead of all promises. */
final class CircuitEdges {
    private static final int BAD = SelfChecks.BAD;
    private static final int NONE = SelfChecks.NONE;

    private final Edges edges;

    CircuitEdges(Edges edges) {
        this.edges = edges;
    }

    void run() {
        edges.section("What it is");
        summary();
        inputs();
        gateNumbers();
        lastCall();
        edges.section("Terms");
        mostGates();
        wires();
        kinds();
        wiresAhead();
        oneTwice();
        values();
        rails();
        words();
    }

    private void summary() {
        edges.asksNothing("Logic that checks itself: inputs, gates and two rails that have to be"
                + " unlike; codes of words by how many ones, by counts of zeros, by pairs that are"
                + " unlike; wires that are stuck, words that expose them, words by which they pass"
                + " for something else; whether what is no word of the code shows, whether each"
                + " fault does and none passes; tests by the words that expose most; errors all one"
                + " way that no one sees; two faults at once; checkers of pairs built as a tree;"
                + " gates told anew, undone; told in a text with the first fault.");
    }

    private void inputs() {
        edges.sentence("A CIRCUIT has INPUTS 0 to N - 1 (1 to 8)");
        edges.fault("n0;", 0);
        edges.fault("n1;", NONE);
        edges.fault("n8;", NONE);
        edges.fault("n9;", 0);
        for (int n = 1; n <= 8; n++) {
            SelfChecks x = Made.sized(n, 0);
            edges.same("inputs of n" + n, x.count(0), n);
            edges.same("the last input", x.wire(1 << (n - 1), n - 1), 1);
            edges.same("one behind the last input", x.wire(0, n), BAD);
            edges.same("one ahead of the first input", x.wire(0, -1), BAD);
        }
    }

    private void gateNumbers() {
        edges.sentence("and GATES 0, 1, ..");
        SelfChecks x = Made.sized(1, 0);
        edges.same("gate 0 where there is none", x.gateOf(0, 0), BAD);
        edges.same("the first gate's number", x.add(3, 0, 0), 0);
        edges.same("the second gate's number", x.add(4, 0, 0), 1);
        edges.same("gate 0", x.gateOf(0, 0), 3);
        edges.same("gate 1", x.gateOf(1, 0), 4);
        edges.same("gate 2", x.gateOf(2, 0), BAD);
        edges.same("gate -1", x.gateOf(-1, 0), BAD);
    }

    private void lastCall() {
        edges.sentence("An object is used for at most 512 calls after it has been made; what later"
                + " calls answer is free.");
        SelfChecks laid = new SelfChecks();
        Due.type(laid, Made.fullText());
        for (int call = 201; call <= 511; call++) {
            laid.rails(call % 2, 1 - call % 2);
        }
        edges.same("the 512th call lays", laid.lay(), 9);
        SelfChecks undone = new SelfChecks();
        for (int call = 1; call <= 511; call++) {
            edges.same("call " + call, undone.rails(call % 7, 8),
                    call == 1 ? 609 : (call - 1) % 7 * 100 + 8);
        }
        edges.same("the 512th call undoes", undone.undo(), 5);
    }

    private void mostGates() {
        edges.sentence("(24 at most);");
        for (int n = 1; n <= 8; n++) {
            SelfChecks x = Made.sized(n, 23);
            edges.same("add of the 24th", x.add(0, 0, 0), 23);
            edges.same("gates then", x.count(1), 24);
            edges.same("add of the 25th", x.add(0, 0, 0), SelfChecks.FULL);
            edges.same("gates still", x.count(1), 24);
        }
        String most = "n8;" + "g0,0,0;".repeat(24);
        edges.fault(most, NONE);
        edges.fault(most + "g0,0,0;", most.length());
    }

    private void wires() {
        edges.sentence("WIRES are the INPUTS, then the GATES (GATE k is WIRE N and k).");
        for (int n = 1; n <= 8; n++) {
            SelfChecks x = Made.sized(n, 24);
            for (int w = 0; w < n; w++) {
                edges.same("input " + w + " of " + n, x.wire(1 << w, w), 1);
                edges.same("it is 0 else", x.wire((1 << n) - 1 - (1 << w), w), 0);
            }
            for (int k = 0; k < 24; k++) {
                edges.same("gate " + k + " behind " + n, x.wire(0, n + k), 1 - k % 2);
            }
            edges.same("one behind the last gate", x.wire(0, n + 24), BAD);
            edges.same("rails on the last gate", x.rails(n + 23, n + 23), 0);
            edges.same("rails behind the last gate", x.rails(n + 24, 0), BAD);
        }
    }

    private void kinds() {
        edges.sentence("A GATE is of a KIND (0 AND, 1 OR, 2 UNLIKE, 3 NOT AND, 4 NOT OR, 5 ALIKE)");
        for (int kind = 0; kind <= 5; kind++) {
            edges.same("add of kind " + kind, Made.least().add(kind, 0, 0), 0);
            edges.fault("n1;g" + kind + ",0,0;", NONE);
            SelfChecks x = Made.sized(1, 2);
            edges.same("gate of kind " + kind, x.gate(1, kind, 0, 1), 2);
            edges.same("its kind then", x.gateOf(1, 0), kind);
        }
        int[] bad = {-1, 6, Edges.MIN, Edges.MAX};
        for (int kind : bad) {
            edges.refused("add of kind " + kind, x -> x.add(kind, 0, 0), BAD);
            edges.refused("busy", Made::busy, "gate of kind " + kind, x -> x.gate(6, kind, 0, 0), BAD);
        }
        edges.fault("n1;g6,0,0;", 3);
        edges.fault("n1;g99,0,0;", 3);
        edges.fault("n1;g-1,0,0;", 3);
    }

    private void wiresAhead() {
        edges.sentence(", of two WIRES ahead of its own");
        for (int g = 0; g < 24; g++) {
            int own = 3 + g;
            SelfChecks x = Made.sized(3, 24);
            edges.same("the last ahead first", x.gate(g, 4, own - 1, 0), g % 2 == 0 ? 5 : 2);
            edges.same("the last ahead second", x.gate(g, 4, 0, own - 1), 4);
            edges.same("its own first", x.gate(g, 4, own, 0), BAD);
            edges.same("its own second", x.gate(g, 4, 0, own), BAD);
            edges.same("one behind it first", x.gate(g, 4, own + 1, 0), BAD);
            edges.same("one behind it second", x.gate(g, 4, 0, own + 1), BAD);
            SelfChecks fewer = Made.sized(3, g);
            edges.same("add of its own first", fewer.add(1, own, 0), BAD);
            edges.same("add of its own second", fewer.add(1, 0, own), BAD);
            edges.same("add of the last ahead", fewer.add(1, own - 1, own - 1), g);
        }
        edges.fault("n3;g0,2,2;g0,3,3;", NONE);
        edges.fault("n3;g0,3,2;", 3);
        edges.fault("n3;g0,2,3;", 3);
        edges.fault("n3;g0,2,2;g0,4,3;", 10);
        edges.fault("n3;g0,2,2;g0,3,4;", 10);
    }

    private void oneTwice() {
        edges.sentence("(may be one twice):");
        SelfChecks x = Made.least();
        edges.same("add of one twice", x.add(3, 0, 0), 0);
        edges.same("add of a gate twice", x.add(3, 1, 1), 1);
        edges.same("gate of one twice", x.gate(1, 5, 0, 0), 3);
        edges.fault("n1;g0,0,0;g1,1,1;", NONE);
    }

    /** Where no, one (the first, the second) or both wires are 1. */
    private void values(int kind, int... want) {
        SelfChecks x = Due.laid("n2;g" + kind + ",0,1;");
        for (int word = 0; word < 4; word++) {
            edges.same("kind " + kind + " by word " + word, x.wire(word, 2), want[word]);
        }
    }

    private void values() {
        edges.sentence("AND 1, if both are 1;");
        values(0, 0, 0, 0, 1);
        edges.sentence("OR 1, if one is;");
        values(1, 0, 1, 1, 1);
        edges.sentence("UNLIKE 1, if just one is;");
        values(2, 0, 1, 1, 0);
        edges.sentence("NOT AND, NOT OR, ALIKE the other way.");
        values(3, 1, 1, 1, 0);
        values(4, 1, 0, 0, 0);
        values(5, 1, 0, 0, 1);
    }

    private void rails() {
        edges.sentence("RAILS are two WIRES P and Q.");
        SelfChecks x = Made.sized(1, 1);
        edges.same("P alone is wire 1", x.rails(1, 0), 0);
        edges.same("P", x.count(2), 1);
        edges.same("Q", x.count(3), 0);
        edges.same("OUT by word 0", x.out(0, -1), 2);
        edges.same("both are one wire", x.rails(1, 1), 100);
        edges.same("OUT by word 0 then", x.out(0, -1), 3);
    }

    private void words() {
        edges.sentence("A WORD is a value of each INPUT, told as a number: INPUT 0 is the lowest bit.");
        for (int n = 1; n <= 8; n++) {
            SelfChecks x = Made.sized(n, 1);
            int most = (1 << n) - 1;
            edges.same("input 0 by word 1 of " + n, x.wire(1, 0), 1);
            edges.same("input 0 by the highest but one", x.wire(most - 1, 0), 0);
            edges.same("the last input by the highest", x.wire(most, n - 1), 1);
            edges.same("the last input by the lower half", x.wire(most >> 1, n - 1), 0);
            edges.same("a word too high", x.wire(most + 1, 0), BAD);
            edges.same("a word too low", x.wire(-1, 0), BAD);
            edges.same("how many", x.word(-1), most + 1);
        }
    }
}

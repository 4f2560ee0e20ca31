/** What the document says of wires that are stuck and of OUT, and promises 12 to 14. */
final class WiresEdges {
    private static final int BAD = SelfChecks.BAD;
    private static final int[] FAR = {Edges.MIN, Edges.MAX};

    private final Edges edges;

    WiresEdges(Edges edges) {
        this.edges = edges;
    }

    void run() {
        edges.section("Terms");
        stuck();
        othersGoByIt();
        numbers();
        out();
        valid();
        edges.section("Promise 12");
        gateOf();
        edges.section("Promise 13");
        wire();
        edges.section("Promise 14");
        outCall();
    }

    private void stuck() {
        edges.sentence("A WIRE can be STUCK at 0 or 1: it has that value, whatever comes to it;");
        // The rails are one wire, so OUT is 0 or 3 as it is.
        for (int kind = 0; kind <= 5; kind++) {
            SelfChecks x = Due.laid("n2;g" + kind + ",0,1;o2,2;");
            for (int word = 0; word < 4; word++) {
                edges.same("a gate stuck at 0", x.out(word, 4), 0);
                edges.same("a gate stuck at 1", x.out(word, 5), 3);
            }
        }
        SelfChecks x = Due.laid("n2;o1,1;");
        for (int word = 0; word < 4; word++) {
            edges.same("an input stuck at 0", x.out(word, 2), 0);
            edges.same("an input stuck at 1", x.out(word, 3), 3);
        }
    }

    private void othersGoByIt() {
        edges.sentence("all other WIRES go by it.");
        // Wire 2 is NOT of input 0, wire 3 NOT of wire 2, wire 4 that AND input 1.
        String text = "n2;g3,0,0;g3,2,2;g0,3,1;";
        SelfChecks x = Due.laid(text + "o4,3;");
        edges.same("as it is", x.out(3, -1), 3);
        edges.same("input 0 at 0 goes all the way", x.out(3, 0), 0);
        edges.same("gate 0 at 1 goes all the way", x.out(3, 5), 0);
        edges.same("gate 1 at 0 goes on", x.out(3, 6), 0);
        edges.same("input 1 at 0 goes to wire 4 alone", x.out(3, 2), 1);
        edges.same("gate 2 at 0 goes nowhere else", x.out(3, 8), 1);
        SelfChecks ahead = Due.laid(text + "o2,0;");
        edges.same("what stands ahead stays, as it is", ahead.out(3, -1), 1);
        edges.same("what stands ahead stays", ahead.out(3, 6), 1);
        edges.same("a stuck gate leaves its input", ahead.out(3, 5), 3);
    }

    private void numbers() {
        edges.sentence("STUCKS are numbered 2 times the WIRE and the value.");
        for (int gates = 0; gates <= 24; gates += 8) {
            for (int n = 1; n <= 8; n++) {
                SelfChecks x = Made.sized(n, gates);
                int last = n + gates - 1;
                x.rails(last, last);
                edges.same("the last wire at 0", x.out(0, 2 * last), 0);
                edges.same("the last wire at 1", x.out(0, 2 * last + 1), 3);
                edges.same("one stuck too high", x.out(0, 2 * last + 2), BAD);
                x.rails(0, 0);
                edges.same("input 0 at 0", x.out(1, 0), 0);
                edges.same("input 0 at 1", x.out(0, 1), 3);
            }
        }
        for (int w = 0; w < 32; w++) {
            SelfChecks x = Made.sized(8, 24);
            x.rails(w, w);
            edges.same("wire " + w + " at 0", x.out(255, 2 * w), 0);
            edges.same("wire " + w + " at 1", x.out(0, 2 * w + 1), 3);
        }
    }

    private void out() {
        edges.sentence("OUT of a WORD is 2 P and Q (with a STUCK or without).");
        SelfChecks x = Due.laid("n2;o0,1;");
        int[] want = {0, 2, 1, 3};
        for (int word = 0; word < 4; word++) {
            edges.same("without, by " + word, x.out(word, -1), want[word]);
            edges.same("P stuck at 0, by " + word, x.out(word, 0), want[word] & 1);
            edges.same("P stuck at 1, by " + word, x.out(word, 1), want[word] | 2);
            edges.same("Q stuck at 0, by " + word, x.out(word, 2), want[word] & 2);
            edges.same("Q stuck at 1, by " + word, x.out(word, 3), want[word] | 1);
        }
    }

    private void valid() {
        edges.sentence("It is VALID, if P and Q are unlike.");
        edges.same("OUTS 0, 2, 1, 3", Due.laid("n2;o0,1;").count(6), 2);
        // The only word whose OUT is VALID, if any: gates that are 0 or 1 by all words.
        edges.same("OUT 0", Due.laid("n1;g2,0,0;g2,0,0;o1,2;").count(6), 0);
        edges.same("OUT 1", Due.laid("n1;g2,0,0;g5,0,0;o1,2;").count(6), 2);
        edges.same("OUT 2", Due.laid("n1;g5,0,0;g2,0,0;o1,2;").count(6), 2);
        edges.same("OUT 3", Due.laid("n1;g5,0,0;g5,0,0;o1,2;").count(6), 0);
    }

    private void gateOf() {
        edges.sentence("Of a GATE: KIND (what = 0), its first WIRE (1), its second one (2),");
        SelfChecks x = Due.laid("n8;g5,7,0;g4,8,7;g0,0,9;");
        int[][] want = {{5, 7, 0}, {4, 8, 7}, {0, 0, 9}};
        for (int g = 0; g < 3; g++) {
            for (int what = 0; what < 3; what++) {
                edges.same("gateOf(" + g + ", " + what + ")", x.gateOf(g, what), want[g][what]);
            }
        }
        SelfChecks full = Made.full();
        edges.same("the last gate's kind", full.gateOf(23, 0), 5);
        edges.same("the last gate's first", full.gateOf(23, 1), 30);
        edges.same("the last gate's second", full.gateOf(23, 2), 23);
        edges.sentence("how many GATES it goes to (3; one that has it twice once).");
        edges.same("none", Due.laid("n1;g0,0,0;g0,0,0;o1,1;").gateOf(0, 3), 0);
        edges.same("one by its first", Due.laid("n1;g0,0,0;g0,1,0;").gateOf(0, 3), 1);
        edges.same("one by its second", Due.laid("n1;g0,0,0;g0,0,1;").gateOf(0, 3), 1);
        edges.same("one twice", Due.laid("n1;g0,0,0;g0,1,1;").gateOf(0, 3), 1);
        edges.same("two", Due.laid("n1;g0,0,0;g0,1,1;g0,1,2;").gateOf(0, 3), 2);
        edges.same("the last to none", Due.laid("n1;g0,0,0;g0,1,1;g0,1,2;").gateOf(2, 3), 0);
        SelfChecks next = Due.laid("n8;g0,0,0;g0,8,8;g0,9,0;g0,0,9;g0,9,9;");
        edges.same("gate 1, not wire 1", next.gateOf(1, 3), 3);
        edges.same("gate 2", next.gateOf(2, 3), 0);
        SelfChecks all = Due.laid("n1;g0,0,0;" + "g0,1,1;".repeat(23));
        edges.same("all 23 others", all.gateOf(0, 3), 23);
        edges.same("the last of 24", all.gateOf(23, 3), 0);
        // Gates of an earlier, longer circuit are none any more.
        all.build(1);
        all.add(0, 0, 1);
        edges.same("none of an earlier circuit", all.gateOf(0, 3), 0);
        edges.sentence("BAD.");
        edges.refused("gate -1", y -> y.gateOf(-1, 0), BAD);
        edges.refused("one gate too high", y -> y.gateOf(y.count(1), 0), BAD);
        edges.refused("what -1", y -> y.gateOf(y.count(1) - 1, -1), BAD);
        edges.refused("what 4", y -> y.gateOf(y.count(1) - 1, 4), BAD);
        for (int far : FAR) {
            edges.refused("gate " + far, y -> y.gateOf(far, 0), BAD);
            edges.refused("what " + far, y -> y.gateOf(0, far), BAD);
        }
        for (int what = 0; what <= 3; what++) {
            edges.same("where there is no gate", Made.least().gateOf(0, what), BAD);
        }
    }

    private void wire() {
        edges.sentence("The value of a WIRE by a WORD.");
        SelfChecks x = new SelfChecks();
        // Wires 4 to 9 by a word of the code and by one that is none of it.
        int[] by5 = {1, 0, 1, 0, 1, 0, 1, 0, 0, 0};
        int[] by15 = {1, 1, 1, 1, 1, 1, 1, 1, 1, 1};
        for (int w = 0; w < 10; w++) {
            edges.same("wire(5, " + w + ")", x.wire(5, w), by5[w]);
            edges.same("wire(15, " + w + ")", x.wire(15, w), by15[w]);
            edges.same("wire(0, " + w + ")", x.wire(0, w), 0);
        }
        SelfChecks full = Made.sized(8, 24);
        edges.same("the highest word, the last input", full.wire(255, 7), 1);
        edges.same("the highest word, the last gate", full.wire(255, 31), 0);
        edges.same("the highest word, the last gate but one", full.wire(255, 30), 1);
        edges.sentence("BAD.");
        edges.refused("word -1", y -> y.wire(-1, 0), BAD);
        edges.refused("one word too high", y -> y.wire(Made.words(y), 0), BAD);
        edges.refused("wire -1", y -> y.wire(0, -1), BAD);
        edges.refused("one wire too high", y -> y.wire(0, Made.wires(y)), BAD);
        for (int far : FAR) {
            edges.refused("word " + far, y -> y.wire(far, 0), BAD);
            edges.refused("wire " + far, y -> y.wire(0, far), BAD);
        }
    }

    private void outCall() {
        edges.sentence("OUT of a WORD with a STUCK (s = -1: without).");
        SelfChecks x = Due.laid("n2;g0,0,1;o2,1;c1,1;");
        int[][] want = {
            // without, then each of the six stucks, by word 0, 1, 2, 3
            {0, 0, 1, 3}, {0, 0, 1, 1}, {0, 0, 3, 3}, {0, 0, 0, 0}, {1, 3, 1, 3}, {0, 0, 1, 1},
            {2, 2, 3, 3}};
        for (int s = -1; s < 6; s++) {
            for (int word = 0; word < 4; word++) {
                edges.same("out(" + word + ", " + s + ")", x.out(word, s), want[s + 1][word]);
            }
        }
        SelfChecks full = Made.sized(8, 24);
        full.rails(31, 30);
        edges.same("the highest word without", full.out(255, -1), 1);
        edges.same("the highest stuck", full.out(255, 63), 3);
        edges.same("the highest stuck but one", full.out(255, 62), 1);
        edges.same("wire 30 at 0", full.out(255, 60), 0);
        edges.sentence("BAD.");
        edges.refused("word -1", y -> y.out(-1, -1), BAD);
        edges.refused("one word too high", y -> y.out(Made.words(y), -1), BAD);
        edges.refused("stuck -2", y -> y.out(0, -2), BAD);
        edges.refused("one stuck too high", y -> y.out(0, Made.stucks(y)), BAD);
        for (int far : FAR) {
            edges.refused("word " + far, y -> y.out(far, -1), BAD);
            edges.refused("stuck " + far, y -> y.out(0, far), BAD);
        }
    }
}

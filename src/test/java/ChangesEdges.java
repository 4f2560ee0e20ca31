/** What the document says of changes and of what is built, and promises 6 to 11. */
final class ChangesEdges {
    private static final int BAD = SelfChecks.BAD;
    private static final int NO = SelfChecks.NO;
    private static final int FULL = SelfChecks.FULL;
    private static final int[] FAR = {Edges.MIN, Edges.MAX};

    /** The circuits of 1 to 4 pairs, told as texts by hand. */
    private static final String[] TREES = {
        "n2;o0,1;c3,0;",
        "n4;g0,0,2;g0,1,3;g1,4,5;g0,0,3;g0,1,2;g1,7,8;o6,9;c3,0;",
        "n6;g0,0,2;g0,1,3;g1,6,7;g0,0,3;g0,1,2;g1,9,10;"
            + "g0,8,4;g0,11,5;g1,12,13;g0,8,5;g0,11,4;g1,15,16;o14,17;c3,0;",
        "n8;g0,0,2;g0,1,3;g1,8,9;g0,0,3;g0,1,2;g1,11,12;"
            + "g0,10,4;g0,13,5;g1,14,15;g0,10,5;g0,13,4;g1,17,18;"
            + "g0,16,6;g0,19,7;g1,20,21;g0,16,7;g0,19,6;g1,23,24;o22,25;c3,0;"};

    private final Edges edges;

    ChangesEdges(Edges edges) {
        this.edges = edges;
    }

    void run() {
        edges.section("Terms");
        built();
        changes();
        lastSix();
        noneBehindLaid();
        edges.section("Promise 6");
        gate();
        edges.section("Promise 7");
        add();
        edges.section("Promise 8");
        rails();
        edges.section("Promise 9");
        code();
        edges.section("Promise 10");
        build();
        edges.section("Promise 11");
        undo();
    }

    private void built() {
        edges.sentence("BUILT for m PAIRS (1 to 4):");
        edges.same("build(0)", new SelfChecks().build(0), BAD);
        edges.same("build(1)", new SelfChecks().build(1), 0);
        edges.same("build(4)", new SelfChecks().build(4), 18);
        edges.same("build(5)", new SelfChecks().build(5), BAD);
        edges.sentence("N is 2 m, CODE is PAIRS;");
        for (int m = 1; m <= 4; m++) {
            SelfChecks x = afterBuild(m);
            edges.same("inputs for " + m, x.count(0), 2 * m);
            edges.same("kind of code for " + m, x.count(4), 3);
            edges.same("its number for " + m, x.count(5), 0);
            edges.same("words for " + m, x.word(-1), 1 << m);
        }
        edges.sentence("the PAIR so far is INPUTS 0 and 1 (first, second);");
        edges.same("P of one pair", afterBuild(1).count(2), 0);
        edges.same("Q of one pair", afterBuild(1).count(3), 1);
        edges.same("the first gate's first", afterBuild(2).gateOf(0, 1), 0);
        edges.same("the second gate's first", afterBuild(2).gateOf(1, 1), 1);
        edges.sentence("then for PAIRS 1, 2, .. of INPUTS a, b six GATES: first AND a, second AND b,"
                + " OR of these two; first AND b, second AND a, OR of these two; the third and the"
                + " sixth are the PAIR so far then.");
        for (int m = 1; m <= 4; m++) {
            gatesAs(afterBuild(m), Due.laid(TREES[m - 1]));
        }
        edges.sentence("The RAILS are the PAIR so far in the end.");
        int[] want = {0, 1, 6, 9, 14, 17, 22, 25};
        for (int m = 1; m <= 4; m++) {
            edges.same("P for " + m, afterBuild(m).count(2), want[2 * m - 2]);
            edges.same("Q for " + m, afterBuild(m).count(3), want[2 * m - 1]);
        }
    }

    /** Built where there was more of all, so that nothing of it is left over. */
    private static SelfChecks afterBuild(int m) {
        SelfChecks x = Made.full();
        x.build(m);
        return x;
    }

    private void gatesAs(SelfChecks x, SelfChecks told) {
        edges.same("gates", x.count(1), told.count(1));
        for (int g = 0; g <= told.count(1); g++) {
            for (int what = 0; what <= 3; what++) {
                edges.same("gateOf(" + g + ", " + what + ")", x.gateOf(g, what), told.gateOf(g, what));
            }
        }
    }

    private void changes() {
        edges.sentence("A change: a GATE, the RAILS, the CODE told anew, BUILT.");
        isChange("gate", x -> x.gate(0, 4, 1, 1));
        isChange("add", x -> x.add(2, 0, 1));
        isChange("rails", x -> x.rails(1, 0));
        isChange("code", x -> x.code(1, 1));
        isChange("build", x -> x.build(3));
        isChange("build of what is so already", x -> x.build(2));
        noChange("write", x -> x.write('n'));
        noChange("wipe", SelfChecks::wipe);
        noChange("fault", SelfChecks::fault);
        noChange("lay that is refused", SelfChecks::lay);
        noChange("undo that is refused", SelfChecks::undo);
        noChange("gate as it is", x -> x.gate(0, 0, 0, 2));
        noChange("rails as they are", x -> x.rails(6, 9));
        noChange("code as it is", x -> x.code(3, 0));
        noChange("a bad add", x -> x.add(6, 0, 0));
        noChange("a bad build", x -> x.build(5));
    }

    private void isChange(String name, Edges.Call call) {
        SelfChecks x = new SelfChecks();
        String ahead = Due.state(x);
        edges.holds(name + " is not refused", call.on(x) >= 0);
        edges.same("changes behind " + name, x.count(7), 1);
        edges.same("undo of " + name, x.undo(), 0);
        edges.holds("all is as ahead of " + name, Due.state(x).equals(ahead));
    }

    private void noChange(String name, Edges.Call call) {
        SelfChecks x = new SelfChecks();
        call.on(x);
        edges.same("changes behind " + name, x.count(7), 0);
        edges.same("undo behind " + name, x.undo(), NO);
    }

    private void lastSix() {
        edges.sentence("UNDONE is the latest change (the last 6 can be;");
        for (int changes = 0; changes <= 9; changes++) {
            SelfChecks x = new SelfChecks();
            String[] states = new String[changes + 1];
            states[0] = circuit(x);
            for (int i = 1; i <= changes; i++) {
                oneChange(x, i);
                states[i] = circuit(x);
            }
            int can = Math.min(changes, 6);
            edges.same("behind " + changes + " changes", x.count(7), can);
            for (int i = 1; i <= can; i++) {
                edges.same("undo " + i + " of " + changes, x.undo(), can - i);
                edges.holds("state " + (changes - i) + " is back",
                        circuit(x).equals(states[changes - i]));
            }
            edges.same("one undo too many", x.undo(), NO);
            edges.holds("it changes nothing", circuit(x).equals(states[changes - can]));
        }
        changesBehindUndos();
    }

    /** The i-th of a row of changes of all kinds, none of which is refused. */
    private static void oneChange(SelfChecks x, int i) {
        switch (i % 5) {
            case 0 -> x.build(1);
            case 1 -> x.rails(1, i % 2);
            case 2 -> x.add(i % 6, 0, 1);
            case 3 -> x.code(1, i % 2);
            default -> x.gate(0, i % 6, 1, 1);
        }
    }

    /** How the circuit stands, but for how many changes there were. */
    private static String circuit(SelfChecks x) {
        String[] parts = Due.state(x).split(" ");
        parts[7] = "-";
        return String.join(" ", parts);
    }

    private void changesBehindUndos() {
        SelfChecks x = new SelfChecks();
        for (int q = 0; q < 6; q++) {
            x.rails(1, q);
        }
        x.undo();
        x.undo();
        edges.same("two of six undone", x.count(7), 4);
        for (int q = 0; q < 3; q++) {
            x.rails(2, q);
        }
        edges.same("three more", x.count(7), 6);
        int[] want = {201, 200, 103, 102, 101, 100};
        for (int left = 5; left >= 0; left--) {
            edges.same("undo", x.undo(), left);
            edges.same("the rails", 100 * x.count(2) + x.count(3), want[5 - left]);
        }
        edges.same("undo of what was forgotten", x.undo(), NO);
        edges.same("an undo is not undone", x.count(7), 0);
    }

    private void noneBehindLaid() {
        edges.sentence("behind LAID none can be).");
        SelfChecks x = Made.busy();
        edges.same("changes ahead of lay", x.count(7), 6);
        edges.same("lay", x.lay(), 4);
        edges.same("changes behind lay", x.count(7), 0);
        edges.same("undo behind lay", x.undo(), NO);
        edges.same("inputs stay", x.count(0), 3);
        x.rails(0, 1);
        edges.same("undo of a change behind lay", x.undo(), 0);
        edges.same("P as laid", x.count(2), 3);
        edges.same("no undo through lay", x.undo(), NO);
        SelfChecks same = Made.busy();
        same.lay();
        same.code(0, 0);
        edges.same("lay of the same text again", same.lay(), 4);
        edges.same("changes then", same.count(7), 0);
        edges.same("undo then", same.undo(), NO);
    }

    private void gate() {
        edges.sentence("A GATE is of KIND k, of WIRES a and b ahead of its own: the KIND that it was.");
        for (int was = 0; was <= 5; was++) {
            SelfChecks x = Due.laid("n2;g0,0,0;g" + was + ",0,0;g0,0,0;");
            edges.same("it was " + was, x.gate(1, 5 - was, 2, 1), was);
            edges.same("its kind", x.gateOf(1, 0), 5 - was);
            edges.same("its first", x.gateOf(1, 1), 2);
            edges.same("its second", x.gateOf(1, 2), 1);
            edges.same("the gate ahead stays", x.gateOf(0, 1), 0);
            edges.same("the gate behind stays", x.gateOf(2, 1), 0);
            edges.same("gates", x.count(1), 3);
        }
        edges.same("the first of 24", Made.full().gate(0, 0, 7, 7), 5);
        edges.same("the last of 24", Made.full().gate(23, 0, 30, 30), 5);
        edges.sentence("BAD;");
        edges.refused("gate -1", x -> x.gate(-1, 0, 0, 0), BAD);
        edges.refused("one gate too high", x -> x.gate(x.count(1), 0, 0, 0), BAD);
        for (int far : FAR) {
            edges.refused("gate " + far, x -> x.gate(far, 0, 0, 0), BAD);
            edges.refused("kind " + far, x -> x.gate(0, far, 0, 0), BAD);
            edges.refused("first wire " + far, x -> x.gate(0, 0, far, 0), BAD);
            edges.refused("second wire " + far, x -> x.gate(0, 0, 0, far), BAD);
        }
        edges.refused("kind -1", x -> x.gate(x.count(1) - 1, -1, 0, 0), BAD);
        edges.refused("kind 6", x -> x.gate(x.count(1) - 1, 6, 0, 0), BAD);
        edges.refused("first wire -1", x -> x.gate(x.count(1) - 1, 0, -1, 0), BAD);
        edges.refused("second wire -1", x -> x.gate(x.count(1) - 1, 0, 0, -1), BAD);
        edges.refused("its own wire first", x -> x.gate(0, 0, x.count(0), 0), BAD);
        edges.refused("its own wire second", x -> x.gate(0, 0, 0, x.count(0)), BAD);
        edges.refused("the last one's own wire first",
                x -> x.gate(x.count(1) - 1, 0, Made.wires(x) - 1, 0), BAD);
        edges.refused("the last one's own wire second",
                x -> x.gate(x.count(1) - 1, 0, 0, Made.wires(x) - 1), BAD);
        gateAsItIs();
    }

    private void gateAsItIs() {
        edges.sentence("NO: it is so (a and b in this order).");
        Made.Maker[] makers = {SelfChecks::new, Made::busy, Made::full};
        for (Made.Maker maker : makers) {
            for (int last = 0; last <= 1; last++) {
                int at = last;
                edges.refused("one that has gates", maker, "gate as it is", x -> {
                    int g = at * (x.count(1) - 1);
                    return x.gate(g, x.gateOf(g, 0), x.gateOf(g, 1), x.gateOf(g, 2));
                }, NO);
            }
        }
        SelfChecks x = Due.laid("n2;g2,0,1;");
        edges.same("as it is", x.gate(0, 2, 0, 1), NO);
        edges.same("the other order", x.gate(0, 2, 1, 0), 2);
        edges.same("that again", x.gate(0, 2, 1, 0), NO);
        edges.same("another first wire alone", x.gate(0, 2, 0, 0), 2);
        edges.same("another second wire alone", x.gate(0, 2, 0, 1), 2);
        edges.same("another kind alone", x.gate(0, 3, 0, 1), 2);
        edges.same("changes", x.count(7), 4);
    }

    private void add() {
        edges.sentence("A GATE more: its number.");
        SelfChecks x = Due.laid("n1;");
        for (int g = 0; g < 24; g++) {
            edges.same("add " + g, x.add(g % 6, g, g / 2), g);
            edges.same("its kind", x.gateOf(g, 0), g % 6);
            edges.same("its first", x.gateOf(g, 1), g);
            edges.same("its second", x.gateOf(g, 2), g / 2);
            edges.same("gates", x.count(1), g + 1);
        }
        edges.sentence("BAD;");
        edges.refused("kind -1", y -> y.add(-1, 0, 0), BAD);
        edges.refused("kind 6", y -> y.add(6, 0, 0), BAD);
        edges.refused("first wire -1", y -> y.add(0, -1, 0), BAD);
        edges.refused("second wire -1", y -> y.add(0, 0, -1), BAD);
        edges.refused("its own wire first", y -> y.add(0, Made.wires(y), 0), BAD);
        edges.refused("its own wire second", y -> y.add(0, 0, Made.wires(y)), BAD);
        for (int far : FAR) {
            edges.refused("kind " + far, y -> y.add(far, 0, 0), BAD);
            edges.refused("first wire " + far, y -> y.add(0, far, 0), BAD);
            edges.refused("second wire " + far, y -> y.add(0, 0, far), BAD);
        }
        edges.sentence("FULL.");
        edges.same("the 24th", Made.sized(8, 23).add(5, 30, 30), 23);
        edges.refused("full", Made::full, "the 25th", y -> y.add(0, 0, 0), FULL);
        edges.refused("full", Made::full, "the 25th of the last wire", y -> y.add(5, 31, 31), FULL);
        edges.refused("24 of one input", () -> Made.sized(1, 24), "the 25th",
                y -> y.add(5, 24, 24), FULL);
        SelfChecks undone = Made.full();
        edges.same("undo of the 24th", undone.undo(), 5);
        edges.same("room for one again", undone.add(1, 2, 3), 23);
        edges.same("and for no other", undone.add(1, 2, 3), FULL);
    }

    private void rails() {
        edges.sentence("The RAILS are WIRES p and q: 100 times P and Q as they were.");
        SelfChecks x = Made.sized(8, 24);
        edges.same("both 0 as they were", x.rails(31, 31), 0);
        edges.same("both 31 as they were", x.rails(0, 31), 3131);
        edges.same("0 and 31 as they were", x.rails(31, 0), 31);
        edges.same("31 and 0 as they were", x.rails(9, 10), 3100);
        edges.same("P", x.count(2), 9);
        edges.same("Q", x.count(3), 10);
        edges.same("9 and 10 as they were", x.rails(0, 0), 910);
        edges.sentence("BAD;");
        edges.refused("P -1", y -> y.rails(-1, 0), BAD);
        edges.refused("Q -1", y -> y.rails(0, -1), BAD);
        edges.refused("P one too high", y -> y.rails(Made.wires(y), 0), BAD);
        edges.refused("Q one too high", y -> y.rails(0, Made.wires(y)), BAD);
        for (int far : FAR) {
            edges.refused("P " + far, y -> y.rails(far, 0), BAD);
            edges.refused("Q " + far, y -> y.rails(0, far), BAD);
        }
        SelfChecks small = Made.sized(1, 1);
        edges.same("P one too high", small.rails(2, 0), BAD);
        edges.same("P the last", small.rails(1, 0), 0);
        edges.same("Q one too high", small.rails(0, 2), BAD);
        edges.same("Q the last", small.rails(0, 1), 100);
        edges.sentence("NO: it is so.");
        edges.refused("as they are", y -> y.rails(y.count(2), y.count(3)), NO);
        SelfChecks both = Due.laid("n2;o0,1;");
        edges.same("as they are", both.rails(0, 1), NO);
        edges.same("the other way round", both.rails(1, 0), 1);
        edges.same("another Q alone", both.rails(1, 1), 100);
        edges.same("another P alone", both.rails(0, 1), 101);
    }

    private void code() {
        edges.sentence("CODE is of KIND k and a NUMBER: how many WORDS it has then.");
        int[] choose = {1, 8, 28, 56, 70, 56, 28, 8, 1};
        for (int number = 0; number <= 8; number++) {
            SelfChecks x = Made.sized(8, 0);
            edges.same("ONES " + number, x.code(1, number), choose[number]);
            edges.same("ZEROS " + number, x.code(2, number), 1 << number);
            edges.same("kind", x.count(4), 2);
            edges.same("number", x.count(5), number);
            edges.same("ALL", x.code(0, 0), 256);
            edges.same("PAIRS", x.code(3, 0), 16);
        }
        edges.sentence("BAD;");
        edges.refused("kind -1", x -> x.code(-1, 0), BAD);
        edges.refused("kind 4", x -> x.code(4, 0), BAD);
        edges.refused("ALL -1", x -> x.code(0, -1), BAD);
        edges.refused("ALL 1", x -> x.code(0, 1), BAD);
        edges.refused("ONES -1", x -> x.code(1, -1), BAD);
        edges.refused("ONES one too high", x -> x.code(1, x.count(0) + 1), BAD);
        edges.refused("ZEROS -1", x -> x.code(2, -1), BAD);
        edges.refused("ZEROS one too high", x -> x.code(2, x.count(0) + 1), BAD);
        edges.refused("PAIRS -1", x -> x.code(3, -1), BAD);
        edges.refused("PAIRS 1", x -> x.code(3, 1), BAD);
        for (int far : FAR) {
            edges.refused("kind " + far, x -> x.code(far, 0), BAD);
            for (int kind = 0; kind <= 3; kind++) {
                int k = kind;
                edges.refused("number " + far, x -> x.code(k, far), BAD);
            }
        }
        for (int n = 1; n <= 7; n += 2) {
            int odd = n;
            edges.refused(n + " inputs", () -> Made.sized(odd, 0), "PAIRS", x -> x.code(3, 0), BAD);
        }
        edges.sentence("NO: it is so.");
        edges.refused("as it is", x -> x.code(x.count(4), x.count(5)), NO);
        SelfChecks x = Due.laid("n2;c2,2;");
        edges.same("as it is", x.code(2, 2), NO);
        edges.same("the same words by another kind", x.code(0, 0), 4);
        edges.same("that again", x.code(0, 0), NO);
        edges.same("another kind alone", x.code(1, 0), 1);
        edges.same("another number alone", x.code(1, 2), 1);
        edges.same("ONES 1", x.code(1, 1), 2);
        edges.same("PAIRS are the same words", x.code(3, 0), 2);
        edges.same("PAIRS again", x.code(3, 0), NO);
    }

    private void build() {
        edges.sentence("BUILT for m PAIRS (1 to 4): how many GATES.");
        for (int m = 1; m <= 4; m++) {
            SelfChecks x = Made.full();
            edges.same("build(" + m + ")", x.build(m), 6 * (m - 1));
            edges.same("gates", x.count(1), 6 * (m - 1));
            edges.same("the text stays", x.count(8), 200);
            edges.same("it is one change", x.undo(), 5);
            edges.same("gates are back", x.count(1), 24);
            SelfChecks told = Due.laid(TREES[m - 1]);
            String ahead = circuit(told);
            edges.same("build of what is so", told.build(m), 6 * (m - 1));
            edges.holds("it is still so", circuit(told).equals(ahead));
        }
        edges.sentence("BAD.");
        int[] bad = {0, 5, -1, Edges.MIN, Edges.MAX};
        for (int m : bad) {
            edges.refused("build(" + m + ")", x -> x.build(m), BAD);
        }
    }

    private void undo() {
        edges.sentence("UNDONE: how many more can be.");
        SelfChecks x = Made.full();
        for (int left = 5; left >= 0; left--) {
            edges.same("undo", x.undo(), left);
            edges.same("gates", x.count(1), 18 + left);
            edges.same("changes left", x.count(7), left);
        }
        edges.same("the text stays", x.count(8), 200);
        edges.sentence("NO.");
        edges.refused("new", SelfChecks::new, "undo", SelfChecks::undo, NO);
        edges.refused("least", Made::least, "undo", SelfChecks::undo, NO);
        edges.refused("all undone", ChangesEdges::allUndone, "undo", SelfChecks::undo, NO);
    }

    private static SelfChecks allUndone() {
        SelfChecks x = Made.busy();
        for (int i = 0; i < 6; i++) {
            x.undo();
        }
        return x;
    }
}

/** The paragraph that begins with "BAD: a number is none that is told". */
final class RefusalEdges {
    private static final int BAD = SelfChecks.BAD;
    private static final int NO = SelfChecks.NO;
    private static final int FULL = SelfChecks.FULL;
    private static final int NONE = SelfChecks.NONE;

    private final Edges edges;

    RefusalEdges(Edges edges) {
        this.edges = edges;
    }

    void run() {
        edges.section("Terms");
        bad();
        no();
        none();
        full();
        order();
        nothingChanges();
        headings();
    }

    /** Sizes from the least to the most; at each the last number that is in and the first out. */
    private void bad() {
        edges.sentence("BAD: a number is none that is told (WIRES, GATES, WORDS, STUCKS such as there"
                + " are; a CODE such as can be).");
        for (int n = 1; n <= 8; n++) {
            for (int gates = 1; gates <= 24; gates += gates == 1 ? 22 : 1) {
                wires(n, gates);
                gates(n, gates);
                words(n, gates);
                stucks(n, gates);
            }
            code(n);
        }
    }

    private void isBad(String name, Edges.Call call, int n, int gates, boolean want) {
        SelfChecks x = Made.sized(n, gates);
        edges.same(name + " is bad with " + n + " inputs and " + gates + " gates",
                call.on(x) == BAD ? 1 : 0, want ? 1 : 0);
    }

    private void wires(int n, int gates) {
        int past = n + gates;
        int[] some = {-1, 0, past - 1, past};
        for (int w : some) {
            boolean out = w < 0 || w >= past;
            isBad("wire " + w, x -> x.wire(0, w), n, gates, out);
            isBad("rails P " + w, x -> x.rails(w, 1), n, gates, out);
            isBad("rails Q " + w, x -> x.rails(1, w), n, gates, out);
            isBad("add of " + w + " first", x -> x.add(0, w, 0), n, gates, out);
            isBad("add of " + w + " second", x -> x.add(0, 0, w), n, gates, out);
            // For the last gate its own wire is out, too.
            isBad("gate of " + w + " first", x -> x.gate(gates - 1, 0, w, 0), n, gates,
                    out || w == past - 1);
            isBad("gate of " + w + " second", x -> x.gate(gates - 1, 0, 0, w), n, gates,
                    out || w == past - 1);
        }
    }

    private void gates(int n, int gates) {
        int[] some = {-1, 0, gates - 1, gates};
        for (int g : some) {
            boolean out = g < 0 || g >= gates;
            isBad("gate " + g, x -> x.gate(g, 0, 0, 0), n, gates, out);
            isBad("gateOf " + g, x -> x.gateOf(g, 3), n, gates, out);
        }
    }

    private void words(int n, int gates) {
        int past = 1 << n;
        int[] some = {-1, 0, past - 1, past};
        for (int word : some) {
            boolean out = word < 0 || word >= past;
            isBad("word " + word + " at wire", x -> x.wire(word, 0), n, gates, out);
            isBad("word " + word + " at out", x -> x.out(word, -1), n, gates, out);
            isBad("word " + word + " at rank", x -> x.rank(word), n, gates, out);
            isBad("word " + word + " at exposes", x -> x.exposes(word), n, gates, out);
        }
    }

    private void stucks(int n, int gates) {
        int past = 2 * (n + gates);
        int[] some = {-1, 0, past - 1, past};
        for (int s : some) {
            boolean out = s < 0 || s >= past;
            // One of another wire than s.
            int t = s == 0 ? 2 : 0;
            isBad("stuck " + s, x -> x.stuck(s, 0), n, gates, out);
            isBad("both of " + s + " first", x -> x.both(s, t, 0), n, gates, out);
            isBad("both of " + s + " second", x -> x.both(t, s, 1), n, gates, out);
            isBad("out with " + s, x -> x.out(0, s), n, gates, out && s != -1);
        }
        isBad("out with -2", x -> x.out(0, -2), n, gates, true);
    }

    private void code(int n) {
        for (int kind = -1; kind <= 4; kind++) {
            for (int number = -1; number <= n + 1; number++) {
                boolean upToN = number >= 0 && number <= n;
                boolean can = kind == 0 && number == 0 || kind == 1 && upToN || kind == 2 && upToN
                        || kind == 3 && number == 0 && n % 2 == 0;
                int k = kind;
                int of = number;
                isBad("code(" + k + ", " + of + ")", x -> x.code(k, of), n, 0, !can);
            }
        }
    }

    private void no() {
        edges.sentence("NO: not as things stand.");
        SelfChecks x = new SelfChecks();
        edges.same("lay without a text", x.lay(), NO);
        edges.same("undo without a change", x.undo(), NO);
        edges.same("gate as it is", x.gate(5, 1, 7, 8), NO);
        edges.same("rails as they are", x.rails(6, 9), NO);
        edges.same("code as it is", x.code(3, 0), NO);
        // As things stand otherwise, each of them goes.
        Due.type(x, "n4;g0,0,1;");
        edges.same("rails once they are others", x.rails(0, 0) + x.rails(6, 9), 609);
        edges.same("code once it is another", x.code(0, 0) + x.code(3, 0), 20);
        edges.same("gate once it is another", x.gate(5, 0, 7, 8) + x.gate(5, 1, 7, 8), 1);
        edges.same("undo with changes", x.undo(), 5);
        edges.same("lay with a text", x.lay(), 5);
    }

    private void none() {
        edges.sentence("NONE: there is none.");
        SelfChecks x = Due.laid("n2;o0,1;c1,0;");
        edges.same("fault", x.fault(), NONE);
        edges.same("a second word", x.word(1), NONE);
        edges.same("a rank", x.rank(1), NONE);
        edges.same("two words that are near", x.near(), NONE);
        edges.same("a word that exposes", x.stuck(1, 2), NONE);
        edges.same("a word by which it passes", x.stuck(0, 3), NONE);
        edges.same("a second test", x.test(1), NONE);
        edges.same("a stuck that passes", new SelfChecks().stucks(5), NONE);
    }

    private void full() {
        edges.sentence("FULL.");
        edges.same("the 201st letter", Made.full().write('n'), FULL);
        edges.same("the 25th gate", Made.full().add(0, 0, 0), FULL);
    }

    private void order() {
        edges.sentence("Of several the first in this order, whatever the order at a call;");
        // BAD ahead of FULL.
        edges.refused("full", Made::full, "a bad 201st letter, below", x -> x.write(31), BAD);
        edges.refused("full", Made::full, "a bad 201st letter, above", x -> x.write(127), BAD);
        edges.refused("full", Made::full, "a 25th gate of kind 6", x -> x.add(6, 0, 0), BAD);
        edges.refused("full", Made::full, "a 25th gate of kind -1", x -> x.add(-1, 0, 0), BAD);
        edges.refused("full", Made::full, "a 25th gate of its own wire", x -> x.add(0, 32, 0), BAD);
        edges.refused("full", Made::full, "the same, second", x -> x.add(0, 0, 32), BAD);
        edges.refused("full", Made::full, "a 25th gate of wire -1", x -> x.add(0, 0, -1), BAD);
        // BAD ahead of NONE.
        edges.refused("new", SelfChecks::new, "no stuck, none exposes it", x -> x.stuck(20, 2), BAD);
        edges.refused("new", SelfChecks::new, "no stuck, it passes by none", x -> x.stuck(-1, 3), BAD);
        edges.refused("new", SelfChecks::new, "no word, so none of the code", x -> x.rank(16), BAD);
        // BAD ahead of NO: all else is as it is, but one number is none.
        edges.refused("new", SelfChecks::new, "gate as it is, but none", x -> x.gate(6, 1, 7, 8), BAD);
        edges.refused("new", SelfChecks::new, "rails, P as it is", x -> x.rails(6, 10), BAD);
        edges.refused("new", SelfChecks::new, "rails, Q as it is", x -> x.rails(-1, 9), BAD);
        edges.refused("new", SelfChecks::new, "code, its kind as it is", x -> x.code(3, 1), BAD);
    }

    private void nothingChanges() {
        edges.sentence("nothing changes then.");
        for (int i = 0; i < Made.ALL.length; i++) {
            edges.changesNothing(Made.NAMES[i], Made.ALL[i], "a row of refused calls",
                    RefusalEdges::refusedCalls);
            edges.changesNothing(Made.NAMES[i], Made.ALL[i], "a row of questions",
                    RefusalEdges::questions);
        }
        edges.changesNothing("full", Made::full, "a letter too many", x -> x.write('n'));
        edges.changesNothing("full", Made::full, "a gate too many", x -> x.add(1, 2, 3));
        refusedAheadOfTheOldest();
    }

    /** A refused call must not push the oldest of six changes out. */
    private void refusedAheadOfTheOldest() {
        SelfChecks x = new SelfChecks();
        for (int q = 0; q < 6; q++) {
            x.rails(0, q);
        }
        refusedCalls(x);
        for (int left = 5; left >= 0; left--) {
            edges.same("undo", x.undo(), left);
        }
        edges.same("P as at first", x.count(2), 6);
        edges.same("Q as at first", x.count(3), 9);
    }

    private static int refusedCalls(SelfChecks x) {
        int wires = Made.wires(x);
        x.write(31);
        x.gate(x.count(1), 0, 0, 0);
        x.gate(0, 6, 0, 0);
        x.add(0, wires, 0);
        x.rails(wires, 0);
        x.rails(x.count(2), x.count(3));
        x.code(4, 0);
        x.code(x.count(4), x.count(5));
        x.build(0);
        return x.build(5);
    }

    private static int questions(SelfChecks x) {
        x.fault();
        x.gateOf(0, 3);
        x.wire(0, 0);
        x.out(1, 1);
        x.word(0);
        x.rank(1);
        x.missed();
        x.near();
        x.stuck(1, 2);
        x.exposes(1);
        x.is(1);
        x.stucks(3);
        x.test(0);
        x.both(0, 3, 1);
        return x.count(6);
    }

    private void headings() {
        edges.asksNothing("Ahead of the calls `write`, `wipe`, `fault`, `lay` the interface says:"
                + " ---- told.");
        edges.asksNothing("Ahead of the calls `gate`, `add`, `rails`, `code`, `build`, `undo` the"
                + " interface says: ---- told anew.");
        edges.asksNothing("Ahead of the calls `gateOf`, `wire`, `out` the interface says:"
                + " ---- wires.");
        edges.asksNothing("Ahead of the calls `word`, `rank`, `missed`, `near` the interface says:"
                + " ---- the code.");
        edges.asksNothing("Ahead of the calls `stuck`, `exposes`, `is`, `stucks`, `test`, `both`,"
                + " `count` the interface says: ---- stucks.");
    }
}

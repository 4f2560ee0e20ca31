/** What the document says of the text, and promises 1 to 5. */
final class TextEdges {
    private static final int BAD = SelfChecks.BAD;
    private static final int NO = SelfChecks.NO;
    private static final int FULL = SelfChecks.FULL;
    private static final int NONE = SelfChecks.NONE;
    private static final String AT_FIRST =
            "n4;g0,0,2;g0,1,3;g1,4,5;g0,0,3;g0,1,2;g1,7,8;o6,9;c3,0;";

    private final Edges edges;

    TextEdges(Edges edges) {
        this.edges = edges;
    }

    void run() {
        edges.section("Terms");
        mostLetters();
        items();
        figures();
        inputsItem();
        gateItem();
        railsItem();
        codeItem();
        fault();
        laid();
        textStays();
        edges.section("Promise 1");
        newObject();
        edges.section("Promise 2");
        write();
        edges.section("Promise 3");
        wipe();
        edges.section("Promise 4");
        faultCall();
        edges.section("Promise 5");
        lay();
    }

    private void mostLetters() {
        edges.sentence("THE TEXT is letters (200 at most).");
        SelfChecks x = new SelfChecks();
        for (int length = 1; length <= 200; length++) {
            edges.same("letter " + length, x.write(';'), length);
        }
        edges.same("letter 201", x.write(';'), FULL);
        edges.same("letters", x.count(8), 200);
    }

    private void items() {
        edges.sentence("A TEXT is ITEMS one behind the other, a ; behind each;");
        edges.fault("", NONE);
        edges.fault("n2", 0);
        edges.fault("n2;", NONE);
        edges.fault("n2;;", 3);
        edges.fault(";n2;", 0);
        edges.fault("n2; ", 3);
        edges.fault("n2;o1,1", 3);
        edges.fault("n2;o1,1;", NONE);
        edges.fault("n2;o1,1c1,1;", 3);
        edges.fault("n2;o1,1,c1,1;", 3);
        edges.fault("n2:", 0);
        for (int sign = 32; sign <= 126; sign++) {
            // Behind it stands what g, o and c want, so that the first letter alone is wrong.
            boolean isItem = sign == 'o' || sign == 'c';
            edges.fault("n2;" + (char) sign + "1,1;", isItem ? NONE : 3);
            edges.fault("n2;" + (char) sign + "1,1,1;", sign == 'g' ? NONE : 3);
            edges.fault("n2;" + (char) sign + "1;", 3);
            edges.fault((char) sign + "2;", sign == 'n' ? NONE : 0);
        }
    }

    private void figures() {
        edges.sentence("numbers have one or two figures:");
        String[] forms = {"n?;", "n2;g?,1,1;", "n2;g1,?,1;", "n2;g1,1,?;", "n2;o?,1;", "n2;o1,?;",
            "n2;c?,1;", "n2;c1,?;"};
        for (String form : forms) {
            int start = form.startsWith("n?") ? 0 : 3;
            edges.fault(form.replace("?", ""), start);
            edges.fault(form.replace("?", "1"), NONE);
            edges.fault(form.replace("?", "01"), NONE);
            edges.fault(form.replace("?", "001"), start);
            edges.fault(form.replace("?", "+1"), start);
            edges.fault(form.replace("?", "1 "), start);
            // The signs beside the figures are none.
            edges.fault(form.replace("?", "/"), start);
            edges.fault(form.replace("?", ":"), start);
            edges.fault(form.replace("?", "1/"), start);
            edges.fault(form.replace("?", "1:"), start);
        }
        SelfChecks x = Due.laid("n8;" + "g0,0,0;".repeat(4) + "o10,11;");
        edges.same("two figures, P", x.count(2), 10);
        edges.same("two figures, Q", x.count(3), 11);
        x = Due.laid("n8;g3,0,0;g5,08,8;o09,00;c1,08;");
        edges.same("with a 0 ahead, the wire", x.gateOf(1, 1), 8);
        edges.same("with a 0 ahead, P", x.count(2), 9);
        edges.same("with a 0 ahead, Q", x.count(3), 0);
        edges.same("with a 0 ahead, the number", x.count(5), 8);
        everyFigure();
    }

    private void everyFigure() {
        // Were the signs beside the figures -1 and 10, these would be wires 9 and 10.
        String twelveWires = "n8;" + "g0,0,0;".repeat(4);
        edges.fault(twelveWires + "o1/,0;", 31);
        edges.fault(twelveWires + "o:,0;", 31);
        edges.fault(twelveWires + "o0:,0;", 31);
        for (int w = 0; w <= 99; w++) {
            edges.fault("n8;" + "g0,0,0;".repeat(24) + "o0," + w + ";", w < 32 ? NONE : 171);
        }
    }

    private void inputsItem() {
        edges.sentence("nN there are N INPUTS;");
        for (int n = 0; n <= 99; n++) {
            edges.fault("n" + n + ";", n >= 1 && n <= 8 ? NONE : 0);
        }
        for (int n = 1; n <= 8; n++) {
            edges.same("inputs of n" + n, Made.sized(n, 0).count(0), n);
        }
        edges.sentence("once, first of all ITEMS;");
        edges.fault("n2;n2;", 3);
        edges.fault("n2;n3;", 3);
        edges.fault("n2;g0,0,0;n2;", 10);
        edges.fault("n2;o0,0;n2;", 8);
        edges.fault("n2;c0,0;n2;", 8);
        edges.fault("g0,0,0;n2;", 0);
        edges.fault("o0,0;n2;", 0);
        edges.fault("c0,0;n2;", 0);
        edges.fault("o0,0;", 0);
        edges.fault("c0,0;", 0);
        edges.sentence("the RAILS are WIRES 0 and 0, CODE is ALL then");
        SelfChecks x = new SelfChecks();
        Due.type(x, "n4;g0,0,0;");
        edges.same("lay", x.lay(), 5);
        for (int what = 2; what <= 5; what++) {
            edges.same("count(" + what + ")", x.count(what), 0);
        }
        edges.same("words", x.word(-1), 16);
        edges.same("no OUT is VALID", x.count(6), 0);
        // Also where an earlier text told otherwise.
        SelfChecks again = new SelfChecks();
        Due.type(again, "n4;o2,3;c1,2;");
        again.lay();
        again.wipe();
        Due.type(again, "n4;");
        edges.same("lay of inputs alone", again.lay(), 4);
        for (int what = 2; what <= 5; what++) {
            edges.same("count(" + what + ") behind an earlier text", again.count(what), 0);
        }
    }

    private void gateItem() {
        edges.sentence("gK,A,B the next GATE, of KIND K,");
        SelfChecks x = Due.laid("n2;g0,0,1;g5,1,0;");
        edges.same("the first one's kind", x.gateOf(0, 0), 0);
        edges.same("the next one's kind", x.gateOf(1, 0), 5);
        edges.same("gates", x.count(1), 2);
        edges.fault("n2;g5,0,0;", NONE);
        edges.fault("n2;g6,0,0;", 3);
        edges.fault("n2;g,0,0;", 3);
        edges.fault("n2;g0,0;", 3);
        edges.fault("n2;g0,0,0,0;", 3);
        edges.fault("n2;g0;0,0;", 3);
        edges.fault("n2;g0,0;0;", 3);
        edges.sentence("of WIRES A and B (such as there are ahead of it)");
        edges.same("A of the first", x.gateOf(0, 1), 0);
        edges.same("B of the first", x.gateOf(0, 2), 1);
        edges.same("A of the next", x.gateOf(1, 1), 1);
        edges.same("B of the next", x.gateOf(1, 2), 0);
        for (int n = 1; n <= 8; n++) {
            String ahead = "n" + n + ";";
            edges.fault(ahead + "g0," + (n - 1) + ",0;", NONE);
            edges.fault(ahead + "g0," + n + ",0;", 3);
            edges.fault(ahead + "g0,0," + (n - 1) + ";", NONE);
            edges.fault(ahead + "g0,0," + n + ";", 3);
            String most = ahead + "g0,0,0;".repeat(23);
            edges.fault(most + "g0," + (n + 22) + "," + (n + 22) + ";", NONE);
            edges.fault(most + "g0," + (n + 23) + ",0;", most.length());
            edges.fault(most + "g0,0," + (n + 23) + ";", most.length());
        }
    }

    private void railsItem() {
        edges.sentence("oP,Q the RAILS (WIRES told ahead;");
        for (int n = 1; n <= 8; n++) {
            edges.fault("n" + n + ";o" + (n - 1) + ",0;", NONE);
            edges.fault("n" + n + ";o" + n + ",0;", 3);
            edges.fault("n" + n + ";o0," + (n - 1) + ";", NONE);
            edges.fault("n" + n + ";o0," + n + ";", 3);
        }
        edges.fault("n1;g0,0,0;o1,1;", NONE);
        edges.fault("n1;g0,0,0;o2,1;", 10);
        edges.fault("n1;g0,0,0;o1,2;", 10);
        // A wire that is told behind it alone is not told ahead.
        edges.fault("n1;o1,0;g0,0,0;", 3);
        edges.fault("n1;o0,1;g0,0,0;", 3);
        edges.fault("n1;o0;", 3);
        edges.fault("n1;o0,0,0;", 3);
        SelfChecks x = Due.laid("n1;g0,0,0;o1,0;");
        edges.same("P", x.count(2), 1);
        edges.same("Q", x.count(3), 0);
        edges.sentence("of several the last one counts)");
        x = Due.laid("n3;o1,2;o2,0;g0,0,0;");
        edges.same("P of two", x.count(2), 2);
        edges.same("Q of two", x.count(3), 0);
        x = Due.laid("n3;o1,2;o2,0;o0,0;");
        edges.same("P of three", x.count(2), 0);
        edges.same("Q of three", x.count(3), 0);
    }

    private void codeItem() {
        edges.sentence("cK,W CODE of KIND K and NUMBER W (such as can be;");
        for (int n = 1; n <= 8; n++) {
            String ahead = "n" + n + ";";
            for (int w = 0; w <= 99; w++) {
                edges.fault(ahead + "c0," + w + ";", w == 0 ? NONE : 3);
                edges.fault(ahead + "c1," + w + ";", w <= n ? NONE : 3);
                edges.fault(ahead + "c2," + w + ";", w <= n ? NONE : 3);
                edges.fault(ahead + "c3," + w + ";", w == 0 && n % 2 == 0 ? NONE : 3);
                edges.fault(ahead + "c4," + w + ";", 3);
            }
        }
        edges.fault("n2;c0;", 3);
        edges.fault("n2;c0,0,0;", 3);
        edges.fault("n2;c99,0;", 3);
        SelfChecks x = Due.laid("n3;c2,1;");
        edges.same("its kind", x.count(4), 2);
        edges.same("its number", x.count(5), 1);
        edges.sentence("of several the last one counts)");
        x = Due.laid("n4;c1,2;c3,0;");
        edges.same("kind of two", x.count(4), 3);
        edges.same("number of two", x.count(5), 0);
        x = Due.laid("n4;c1,2;c3,0;c0,0;g0,0,0;");
        edges.same("kind of three", x.count(4), 0);
        edges.same("words of three", x.word(-1), 16);
        // One that can not be is a fault, also where a last one could be.
        edges.fault("n4;c1,5;c0,0;", 3);
    }

    private void fault() {
        edges.sentence("FAULT: the place of the first letter of the first ITEM that is not so");
        edges.fault("x", 0);
        edges.fault("n4;x", 3);
        edges.fault("n4;o0,9;", 3);
        edges.fault("n4;o0,9;c9,9;n4;", 3);
        edges.fault("n4;o0,3;c9,9;n4;", 8);
        edges.fault("n4;o0,3;c1,1;n4;", 13);
        edges.fault("n4;o00,03;c01,01;n4;", 17);
        String full = Made.fullText();
        edges.fault(full, NONE);
        edges.fault(full.substring(0, 199), 195);
        edges.fault(full.substring(0, 199) + ",", 195);
        edges.fault(full.substring(0, 195) + "n4;n8", 195);
        edges.fault(full.substring(0, 188) + "o0,000;", 188);
        edges.fault("n8;" + "o0,0;".repeat(38) + "o0,00;" + "c", 199);
        edges.sentence("(or is one too many).");
        for (int n = 1; n <= 8; n++) {
            String most = "n" + n + ";" + "g0,0,0;".repeat(24);
            edges.fault(most, NONE);
            edges.fault(most + "o0,0;c0,0;", NONE);
            edges.fault(most + "g0,0,0;", 171);
            edges.fault(most + "o0,0;g0,0,0;c0,0;", 176);
        }
    }

    private void laid() {
        edges.sentence("LAID is a TEXT without FAULT that tells of INPUTS (NO else;");
        edges.refused("no text", SelfChecks::new, "lay", SelfChecks::lay, NO);
        edges.refused("no text", Made::least, "lay", SelfChecks::lay, NO);
        edges.refused("a fault", () -> busyWith("n3;o3,0;"), "lay", SelfChecks::lay, NO);
        edges.refused("a fault at the end", () -> busyWith("n3;g1,0,1;o3,0;c1,3"), "lay",
                SelfChecks::lay, NO);
        edges.refused("no inputs", () -> busyWith("c0,0;"), "lay", SelfChecks::lay, NO);
        SelfChecks x = busyWith("n3;");
        edges.same("lay of inputs alone", x.lay(), 3);
        edges.sentence("at first n4;g0,0,2;g0,1,3;g1,4,5;g0,0,3;g0,1,2;g1,7,8;o6,9;c3,0;).");
        edges.holds("as if it were laid",
                Due.state(new SelfChecks()).equals(Due.state(Due.laid(AT_FIRST))));
    }

    private static SelfChecks busyWith(String text) {
        SelfChecks x = Made.busy();
        x.wipe();
        Due.type(x, text);
        return x;
    }

    private void textStays() {
        edges.sentence("THE TEXT stays when it is LAID.");
        SelfChecks x = new SelfChecks();
        Due.type(x, "n3;g0,0,1;");
        edges.same("lay", x.lay(), 4);
        edges.same("letters", x.count(8), 10);
        x.build(1);
        edges.same("lay once more", x.lay(), 4);
        edges.same("inputs", x.count(0), 3);
        edges.same("a letter behind it", x.write('o'), 11);
        edges.same("the fault is the new item's", x.fault(), 10);
        edges.same("wipe", x.wipe(), 11);
    }

    private void newObject() {
        edges.sentence("As told;");
        SelfChecks x = new SelfChecks();
        int[] want = {4, 6, 6, 9, 3, 0, 4, 0, 0};
        for (int what = 0; what < want.length; what++) {
            edges.same("count(" + what + ")", x.count(what), want[what]);
        }
        edges.same("nothing to undo", x.undo(), NO);
        edges.holds("the circuit of the document",
                Due.state(x).equals(Due.state(Due.laid(AT_FIRST))));
        SelfChecks other = new SelfChecks();
        Due.type(other, "n1;");
        other.lay();
        other.add(3, 0, 0);
        edges.same("another object changes nothing in it", x.count(1), 6);
        edges.same("nor in a newer one", new SelfChecks().count(0), 4);
        edges.sentence("THE TEXT is empty.");
        edges.same("letters", new SelfChecks().count(8), 0);
        edges.same("wipe", new SelfChecks().wipe(), 0);
        edges.same("fault", new SelfChecks().fault(), NONE);
        edges.same("lay", new SelfChecks().lay(), NO);
        edges.same("write", new SelfChecks().write('n'), 1);
    }

    private void write() {
        edges.sentence("A letter (32 to 126, as in ASCII) comes behind THE TEXT: how long it is.");
        SelfChecks x = new SelfChecks();
        for (int letter = 32; letter <= 126; letter++) {
            edges.same("write(" + letter + ")", x.write(letter), letter - 31);
        }
        SelfChecks order = new SelfChecks();
        Due.type(order, "n1");
        edges.same("behind, not ahead", order.fault(), 0);
        edges.same("the ;", order.write(59), 3);
        edges.same("no fault then", order.fault(), NONE);
        edges.same("lay", order.lay(), 1);
        edges.sentence("BAD;");
        int[] bad = {31, 127, 128, 0, -1, 65536 + 'n', 256 + 'n', Edges.MIN, Edges.MAX};
        for (int letter : bad) {
            edges.refused("write(" + letter + ")", y -> y.write(letter), BAD);
        }
        edges.sentence("FULL: it has 200.");
        SelfChecks most = new SelfChecks();
        Due.type(most, Made.fullText().substring(0, 199));
        edges.same("the 200th", most.write(';'), 200);
        edges.refused("full", Made::full, "write(;)", y -> y.write(';'), FULL);
        edges.refused("full", Made::full, "write(32)", y -> y.write(32), FULL);
        edges.refused("full", Made::full, "write(126)", y -> y.write(126), FULL);
        edges.same("one that is full lays", Made.full().lay(), 9);
    }

    private void wipe() {
        edges.sentence("THE TEXT is empty: how long it was.");
        SelfChecks x = new SelfChecks();
        edges.same("of nothing", x.wipe(), 0);
        x.write('n');
        edges.same("of one", x.wipe(), 1);
        edges.same("again", x.wipe(), 0);
        Due.type(x, Made.fullText());
        edges.same("of 200", x.wipe(), 200);
        edges.same("letters", x.count(8), 0);
        edges.same("fault", x.fault(), NONE);
        edges.same("lay", x.lay(), NO);
        edges.same("write behind it", x.write('n'), 1);
        SelfChecks full = new SelfChecks();
        Due.type(full, "x".repeat(199));
        edges.same("of 199", full.wipe(), 199);
        edges.same("the circuit stays", full.count(0), 4);
        edges.same("what can be undone stays", wiped(Made.busy()).undo(), 5);
    }

    private static SelfChecks wiped(SelfChecks x) {
        x.wipe();
        return x;
    }

    private void faultCall() {
        edges.sentence("FAULT of THE TEXT.");
        edges.fault("n2;g0,0,2;", 3);
        SelfChecks x = Made.full();
        edges.same("of 200 letters", x.fault(), NONE);
        SelfChecks spoilt = new SelfChecks();
        Due.type(spoilt, "n2;");
        spoilt.write('!');
        edges.same("of a last letter", spoilt.fault(), 3);
        edges.same("the same again", spoilt.fault(), 3);
        edges.changesNothing("busy", Made::busy, "fault", SelfChecks::fault);
        edges.changesNothing("full", Made::full, "fault", SelfChecks::fault);
        edges.changesNothing("spoilt", () -> busyWith("n2;g1,0,1;o3,0;"), "fault", SelfChecks::fault);
        edges.sentence("NONE.");
        edges.refused("new", SelfChecks::new, "fault of no text", SelfChecks::fault, NONE);
        edges.refused("busy", Made::busy, "fault", SelfChecks::fault, NONE);
        edges.fault("n1;", NONE);
        edges.fault(AT_FIRST, NONE);
    }

    private void lay() {
        edges.sentence("LAID: how many WIRES;");
        SelfChecks least = new SelfChecks();
        Due.type(least, "n1;");
        edges.same("the fewest", least.lay(), 1);
        SelfChecks most = new SelfChecks();
        Due.type(most, "n8;" + "g0,0,0;".repeat(24));
        edges.same("the most", most.lay(), 32);
        edges.same("gates", most.count(1), 24);
        SelfChecks busy = Made.busy();
        edges.same("of another circuit", busy.lay(), 4);
        int[] want = {3, 1, 3, 1, 2, 2};
        for (int what = 0; what < want.length; what++) {
            edges.same("count(" + what + ")", busy.count(what), want[what]);
        }
        everythingIsOfTheNewOne();
        edges.sentence("nothing can be UNDONE.");
        edges.same("changes", busy.count(7), 0);
        edges.refused("laid", TextEdges::busyLaid, "undo", SelfChecks::undo, NO);
        edges.sentence("NO.");
        edges.refused("a fault", () -> busyWith("n2;n2;"), "lay", SelfChecks::lay, NO);
        edges.refused("no text", () -> busyWith(""), "lay", SelfChecks::lay, NO);
        SelfChecks x = busyWith("n2");
        edges.same("lay without the ;", x.lay(), NO);
        edges.same("what can be undone stays", x.count(7), 6);
        x.write(';');
        edges.same("lay with it", x.lay(), 2);
    }

    /** What was worked out ahead of lay must not be answered behind it. */
    private void everythingIsOfTheNewOne() {
        SelfChecks x = new SelfChecks();
        edges.same("words ahead", x.word(-1), 4);
        edges.same("near ahead", x.near(), 2);
        edges.same("stucks that pass ahead", x.stucks(2), 0);
        edges.same("tests ahead", x.test(-1), 4);
        Due.type(x, "n1;g3,0,0;g0,0,0;o0,1;");
        edges.same("lay", x.lay(), 3);
        edges.same("words behind", x.word(-1), 2);
        edges.same("near behind", x.near(), 1);
        edges.same("stucks that pass behind", x.stucks(2), 2);
        edges.same("stucks that none exposes behind", x.stucks(0), 4);
        edges.same("tests behind", x.test(-1), 2);
    }

    private static SelfChecks busyLaid() {
        SelfChecks x = Made.busy();
        x.lay();
        return x;
    }
}

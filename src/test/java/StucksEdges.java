/** What the document says of stucks that are exposed, pass or are latent, and promises 19 to 25. */
final class StucksEdges {
    private static final int BAD = SelfChecks.BAD;
    private static final int NONE = SelfChecks.NONE;
    private static final int[] FAR = {Edges.MIN, Edges.MAX};

    /** Rails: input 0 and its NOT; OUT is always VALID, a stuck input passes for the other word. */
    private static final String PASSING = "n1;g3,0,0;o0,1;";
    /** Rails: two inputs; by words 0 and 3 OUT is not VALID. */
    private static final String INPUTS = "n2;o0,1;";

    /**
     * Wires 8 to 15 are 1 by one word of three inputs each; P is their OR and so always 1, Q is 0.
     * One of them at 0 is exposed by its own word alone, so each word has to be a test.
     */
    private static final String EACH_WORD = "n3;g4,0,1;g0,0,1;g2,0,4;g2,1,4;g3,2,2;"
            + "g0,3,2;g0,3,7;g0,5,2;g0,5,7;g0,6,2;g0,6,7;g0,4,2;g0,4,7;"
            + "g1,8,9;g1,10,11;g1,12,13;g1,14,15;g1,16,17;g1,18,19;g1,20,21;g2,0,0;o22,23;";

    private final Edges edges;

    StucksEdges(Edges edges) {
        this.edges = edges;
    }

    void run() {
        edges.section("Terms");
        exposesTerm();
        passesTerm();
        latentTerm();
        disjointTerm();
        testingTerm();
        secureTerm();
        testsTerm();
        bothTerm();
        edges.section("Promise 19");
        stuck();
        edges.section("Promise 20");
        exposes();
        edges.section("Promise 21");
        is();
        edges.section("Promise 22");
        stucks();
        edges.section("Promise 23");
        test();
        edges.section("Promise 24");
        both();
        edges.section("Promise 25");
        count();
    }

    /** stuck(s, what) for each what. */
    private void stuckIs(String text, int s, int... want) {
        SelfChecks x = Due.laid(text);
        for (int what = 0; what < want.length; what++) {
            edges.same(text + " stuck(" + s + ", " + what + ")", x.stuck(s, what), want[what]);
        }
    }

    private void exposesTerm() {
        edges.sentence("A WORD of the CODE EXPOSES a STUCK, if OUT with it is not VALID.");
        // Input 0 at 0: OUT by words 0 to 3 is 0, 0, 1, 1.
        edges.same("OUT 0 exposes", Due.laid("n2;o0,1;c1,0;").stuck(0, 0), 1);
        edges.same("OUT 1 does not", Due.laid("n2;o0,1;c1,2;").stuck(0, 0), 0);
        // Input 0 at 1: OUT is 2, 2, 3, 3.
        edges.same("OUT 2 does not", Due.laid("n2;o0,1;c1,0;").stuck(1, 0), 0);
        edges.same("OUT 3 exposes", Due.laid("n2;o0,1;c1,2;").stuck(1, 0), 1);
        // OUT is not VALID without it either, and is as without it: exposed all the same.
        stuckIs("n2;o0,0;c1,0;", 0, 1, 0, 0, NONE, 1);
        // A word that is none of the code does not expose: all four words, then two.
        edges.same("by all words", Due.laid(INPUTS).stuck(0, 0), 2);
        edges.same("by pairs alone", Due.laid(INPUTS + "c3,0;").stuck(0, 0), 1);
    }

    private void passesTerm() {
        edges.sentence("A STUCK PASSES by a WORD of the CODE, if OUT with it is VALID, but not as"
                + " without it.");
        // Input 0 at 0: by word 0 OUT is 1 as without it, by word 1 it is 1 in place of 2.
        stuckIs(PASSING, 0, 0, 1, NONE, 1, 0);
        stuckIs(PASSING, 1, 0, 1, NONE, 0, 0);
        // Not VALID with it: no passing, though OUT is another one.
        stuckIs(PASSING, 2, 1, 0, 0, NONE, 0);
        stuckIs(PASSING, 3, 1, 0, 1, NONE, 0);
        // VALID with it where it is not VALID without it.
        stuckIs("n2;o0,1;c1,0;", 1, 0, 1, NONE, 0, 0);
        // Word 1 is none of the code: nothing passes by it.
        stuckIs(PASSING + "c1,0;", 0, 0, 0, NONE, NONE, 1);
    }

    private void latentTerm() {
        edges.sentence("It is LATENT, if OUT is as without it for all WORDS of the CODE.");
        // A gate that goes nowhere.
        stuckIs(PASSING + "g0,0,0;", 4, 0, 0, NONE, NONE, 1);
        stuckIs(PASSING + "g0,0,0;", 5, 0, 0, NONE, NONE, 1);
        // By one word of 256 OUT is another one: an AND of all eight inputs.
        String and = "n8;g0,0,1;g0,8,2;g0,9,3;g0,10,4;g0,11,5;g0,12,6;g0,13,7;g3,0,0;g0,0,15;o14,16;";
        SelfChecks x = Due.laid(and);
        edges.same("by one word of all", x.stuck(28, 4), 0);
        edges.same("it is the highest that is VALID without", x.count(6), 1);
        // Without that word in the code it is latent.
        x.code(1, 7);
        edges.same("by no word of the code", x.stuck(28, 4), 1);
        x.code(1, 8);
        edges.same("by the only word of the code", x.stuck(28, 4), 0);
        edges.same("exposed by it", x.stuck(28, 2), 255);
        // Exposed and latent at once, where OUT is not VALID anyway.
        stuckIs("n2;o0,0;", 2, 4, 0, 0, NONE, 1);
    }

    private void isOf(String text, int what, int want) {
        edges.same("is(" + what + ") of " + text, Due.laid(text).is(what), want);
    }

    private void disjointTerm() {
        edges.sentence("The CIRCUIT is DISJOINT, if just the WORDS of the CODE have VALID OUTS"
                + " (without STUCKS);");
        isOf(INPUTS + "c3,0;", 0, 1);
        isOf(INPUTS + "c1,1;", 0, 1);
        // Words 0 and 3 of the code have none.
        isOf(INPUTS, 0, 0);
        // No word of the code has one, and words that are none of it have.
        isOf(INPUTS + "c1,0;", 0, 0);
        // All words have one: so it is with all words in the code, and not with one less.
        isOf(PASSING, 0, 1);
        isOf(PASSING + "c1,0;", 0, 0);
        isOf(PASSING + "c1,1;", 0, 0);
        // 0 AND 1 is unlike a 0 by word 3 alone.
        String one = "n2;g0,0,1;g2,0,0;o2,3;";
        isOf(one + "c1,2;", 0, 1);
        isOf(one + "c1,1;", 0, 0);
        isOf(one + "c0,0;", 0, 0);
        // 0 OR 1 is unlike a 0 by words 1, 2 and 3: the code has two of these.
        isOf("n2;g1,0,1;g2,0,0;o2,3;c1,1;", 0, 0);
        // No word has one at all.
        isOf("n1;o0,0;", 0, 0);
        for (int m = 1; m <= 4; m++) {
            edges.same("of " + m + " pairs", built(m).is(0), 1);
        }
    }

    private static SelfChecks built(int m) {
        SelfChecks x = new SelfChecks();
        x.build(m);
        return x;
    }

    private void testingTerm() {
        edges.sentence("TESTING, if each STUCK is EXPOSED by some WORD of the CODE;");
        isOf(INPUTS + "c3,0;", 1, 1);
        isOf(INPUTS, 1, 1);
        // By word 0 alone OUT shows the stucks at 0, by word 3 alone those at 1.
        isOf(INPUTS + "c1,0;", 1, 0);
        isOf(INPUTS + "c1,2;", 1, 0);
        isOf(PASSING, 1, 0);
        // One gate that goes nowhere, and all else exposed.
        isOf(INPUTS + "c3,0;g0,0,0;", 1, 0);
        // One stuck alone that none exposes, all others are.
        edges.same("all but one", oneNotExposed().stucks(0), 1);
        edges.same("is(1) of it", oneNotExposed().is(1), 0);
        for (int m = 1; m <= 4; m++) {
            edges.same("of " + m + " pairs", built(m).is(1), 1);
        }
    }

    private static SelfChecks oneNotExposed() {
        SelfChecks x = new SelfChecks();
        x.gate(0, 1, 0, 2);
        x.add(2, 6, 9);
        x.add(5, 6, 10);
        x.rails(10, 11);
        return x;
    }

    private void secureTerm() {
        edges.sentence("SECURE, if no STUCK PASSES by any.");
        isOf(INPUTS + "c3,0;", 2, 1);
        isOf("n1;o0,0;", 2, 1);
        isOf(PASSING, 2, 0);
        // By word 0 alone input 0 at 1 passes.
        isOf(PASSING + "c1,0;", 2, 0);
        isOf(INPUTS, 2, 0);
        // A stuck that is latent does not pass.
        isOf(INPUTS + "c3,0;g0,0,0;", 2, 1);
        for (int m = 1; m <= 4; m++) {
            edges.same("of " + m + " pairs", built(m).is(2), 1);
        }
    }

    private void testsAre(String text, int... words) {
        SelfChecks x = Due.laid(text);
        edges.same(text + " tests", x.test(-1), words.length);
        for (int i = 0; i < words.length; i++) {
            edges.same(text + " test(" + i + ")", x.test(i), words[i]);
        }
        edges.same(text + " one too many", x.test(words.length), NONE);
    }

    private void testsTerm() {
        edges.sentence("TESTS: again and again the WORD of the CODE that EXPOSES most STUCKS of those"
                + " that none so far does,");
        // 0 AND 1, and input 0: words 0 to 3 expose 4, 3, 5 and 4. So 2 first, for 5 then 1.
        testsAre("n2;g0,0,1;o2,0;", 2, 1);
        // Words 0 to 3 expose 0 2, 0 3, 1 2, 1 3: behind 0 word 3 alone exposes two more.
        testsAre(INPUTS, 0, 3);
        // Words that are none of the code are no tests.
        testsAre("n2;g0,0,1;o2,0;c1,1;", 2, 1);
        testsAre("n2;g0,0,1;o2,0;c1,0;", 0);
        edges.sentence("of several the lowest,");
        testsAre(INPUTS + "c3,0;", 1, 2);
        testsAre(PASSING, 0, 1);
        testsAre("n8;o0,0;", 0);
        testsAre("n8;o0,0;c1,1;", 1);
        testsAre("n8;o0,0;c1,8;", 255);
        edges.sentence("till none EXPOSES another one.");
        // All is exposed by the first one.
        testsAre("n1;o0,0;", 0);
        // What no word exposes asks for no test.
        testsAre(PASSING + "g0,0,0;", 0, 1);
        testsAre(PASSING + "c1,1;", 1);
        edges.same("of four pairs", built(4).test(-1), 4);
        everyWordIsWanted();
    }

    private void everyWordIsWanted() {
        SelfChecks x = Due.laid(EACH_WORD);
        edges.same("a gate for each word of three inputs", x.test(-1), 8);
        for (int word = 0; word < 8; word++) {
            int found = 0;
            for (int i = 0; i < 8; i++) {
                found += x.test(i) == word ? 1 : 0;
            }
            edges.same("how often word " + word + " is a test", found, 1);
        }
        edges.same("behind the last", x.test(8), NONE);
    }

    private void bothTerm() {
        edges.sentence("BOTH: two STUCKS of unlike WIRES at once.");
        SelfChecks x = Due.laid(INPUTS);
        edges.same("both at 0: OUT 0", x.both(0, 2, 0), 4);
        edges.same("0 and 1: OUT 1", x.both(0, 3, 0), 0);
        edges.same("but not as without, by three words", x.both(0, 3, 1), 3);
        edges.same("1 and 0: OUT 2", x.both(1, 2, 1), 3);
        edges.same("both at 1: OUT 3", x.both(1, 3, 0), 4);
        // The stuck gate hides the stuck input, whichever is told first.
        SelfChecks hidden = Due.laid("n1;g0,0,0;g2,0,0;o1,2;");
        edges.same("input at 0, gate at 1", hidden.both(0, 3, 0), 0);
        edges.same("gate at 1, input at 0", hidden.both(3, 0, 0), 0);
        edges.same("input at 1, gate at 0", hidden.both(1, 2, 0), 2);
        edges.same("gate at 0, input at 1", hidden.both(2, 1, 0), 2);
        edges.same("one wire at 0 and 1", hidden.both(0, 1, 0), BAD);
        edges.same("one stuck twice", hidden.both(3, 3, 0), BAD);
        edges.same("stucks of two wires side by side", hidden.both(1, 2, 1), 0);
    }

    private void stuck() {
        edges.sentence("Of a STUCK: how many WORDS of the CODE EXPOSE it (what = 0),");
        edges.same("none", Due.laid(PASSING).stuck(0, 0), 0);
        edges.same("one", Due.laid(PASSING).stuck(2, 0), 1);
        edges.same("all 256", Due.laid("n8;o0,0;").stuck(15, 0), 256);
        edges.sentence("by how many it PASSES (1),");
        edges.same("none", Due.laid(PASSING).stuck(2, 1), 0);
        edges.same("one", Due.laid(PASSING).stuck(0, 1), 1);
        // Input 7 and its NOT: by half of all words.
        edges.same("128", Due.laid("n8;g3,7,7;o7,8;").stuck(14, 1), 128);
        edges.sentence("the lowest WORD that EXPOSES it (2),");
        edges.same("the lowest of all", Due.laid("n8;o0,0;").stuck(15, 2), 0);
        edges.same("the highest of all", Due.laid("n8;o0,0;c1,8;").stuck(15, 2), 255);
        edges.same("the first of two", Due.laid("n2;o0,1;").stuck(3, 2), 1);
        edges.sentence("by which it PASSES (3),");
        edges.same("the first of many", Due.laid("n8;g3,7,7;o7,8;").stuck(14, 3), 128);
        edges.same("the lowest of all", Due.laid("n8;g3,7,7;o7,8;").stuck(15, 3), 0);
        edges.same("the highest of all", Due.laid("n8;g3,7,7;o7,8;c1,8;").stuck(14, 3), 255);
        edges.sentence("1 if it is LATENT, 0 (4).");
        edges.same("latent", Due.laid("n8;g3,7,7;o7,8;").stuck(13, 4), 1);
        edges.same("not latent", Due.laid("n8;g3,7,7;o7,8;").stuck(14, 4), 0);
        edges.same("the highest stuck", Made.full().stuck(63, 4), 1);
        edges.same("the lowest stuck", Made.least().stuck(0, 4), 0);
        edges.sentence("BAD;");
        for (int kind = 0; kind <= 4; kind++) {
            int what = kind;
            edges.refused("stuck -1", x -> x.stuck(-1, what), BAD);
            edges.refused("one stuck too high", x -> x.stuck(Made.stucks(x), what), BAD);
            edges.holds("the last stuck", Made.busy().stuck(21, what) != BAD);
            edges.holds("the last of 64", Made.full().stuck(63, what) != BAD);
        }
        edges.refused("what -1", x -> x.stuck(0, -1), BAD);
        edges.refused("what 5", x -> x.stuck(0, 5), BAD);
        for (int far : FAR) {
            edges.refused("stuck " + far, x -> x.stuck(far, 0), BAD);
            edges.refused("what " + far, x -> x.stuck(0, far), BAD);
        }
        edges.sentence("NONE (2, 3).");
        noneOf(PASSING + "g0,0,0;", 4);
        noneOf(PASSING + "g0,0,0;", 5);
        edges.same("exposed, but never passing", Due.laid(PASSING).stuck(2, 3), NONE);
        edges.same("passing, but never exposed", Due.laid(PASSING).stuck(0, 2), NONE);
    }

    private void noneOf(String text, int s) {
        edges.refused(text, () -> Due.laid(text), "none exposes it", x -> x.stuck(s, 2), NONE);
        edges.refused(text, () -> Due.laid(text), "it passes by none", x -> x.stuck(s, 3), NONE);
        edges.same("how many expose it", Due.laid(text).stuck(s, 0), 0);
        edges.same("by how many it passes", Due.laid(text).stuck(s, 1), 0);
    }

    private void exposes() {
        edges.sentence("How many STUCKS a WORD of the CODE EXPOSES.");
        int[] words = {5, 6, 9, 10};
        for (int word : words) {
            edges.same("exposes(" + word + ")", new SelfChecks().exposes(word), 9);
        }
        edges.same("one of four", Due.laid(PASSING).exposes(0), 1);
        edges.same("all of two", Due.laid("n1;o0,0;").exposes(1), 2);
        edges.same("all of 64, by the lowest word", Made.full().exposes(0), 64);
        edges.same("all of 64, by the highest word", Made.full().exposes(255), 64);
        edges.sentence("BAD (a WORD that is none of it, too).");
        edges.refused("exposes(-1)", x -> x.exposes(-1), BAD);
        edges.refused("one word too high", x -> x.exposes(Made.words(x)), BAD);
        for (int far : FAR) {
            edges.refused("exposes(" + far + ")", x -> x.exposes(far), BAD);
        }
        edges.refused("new", SelfChecks::new, "none of it, below", x -> x.exposes(4), BAD);
        edges.refused("new", SelfChecks::new, "none of it, between", x -> x.exposes(7), BAD);
        edges.refused("new", SelfChecks::new, "none of it, above", x -> x.exposes(11), BAD);
        edges.refused("busy", Made::busy, "none of it", x -> x.exposes(0), BAD);
        SelfChecks x = Due.laid("n8;c1,8;");
        for (int word = 0; word < 255; word++) {
            edges.same("exposes(" + word + ")", x.exposes(word), BAD);
        }
        edges.same("the only word of it", x.exposes(255), 16);
    }

    private void is() {
        edges.sentence("1 if DISJOINT (what = 0), TESTING (1), SECURE (2), 0.");
        // Each of them alone, none, and all.
        isAll(INPUTS + "c3,0;", 1, 1, 1);
        isAll(PASSING, 1, 0, 0);
        isAll(INPUTS, 0, 1, 0);
        isAll(PASSING + "c1,0;", 0, 0, 0);
        isAll(INPUTS + "c3,0;g0,0,0;", 1, 0, 1);
        isAll("n1;o0,0;", 0, 1, 1);
        edges.sentence("BAD.");
        int[] bad = {-1, 3, Edges.MIN, Edges.MAX};
        for (int what : bad) {
            edges.refused("is(" + what + ")", x -> x.is(what), BAD);
        }
    }

    private void isAll(String text, int... want) {
        for (int what = 0; what < want.length; what++) {
            isOf(text, what, want[what]);
        }
    }

    private void stucksAre(String text, int what, int want) {
        edges.same("stucks(" + what + ") of " + text, Due.laid(text).stucks(what), want);
    }

    private void stucks() {
        edges.sentence("How many STUCKS no WORD of the CODE EXPOSES (what = 0),");
        stucksAre(INPUTS, 0, 0);
        stucksAre(PASSING, 0, 2);
        stucksAre("n8;g3,7,7;o7,8;", 0, 16);
        edges.sentence("are LATENT (1),");
        stucksAre(PASSING, 1, 0);
        stucksAre(PASSING + "g0,0,0;", 1, 2);
        stucksAre("n8;g3,7,7;o7,8;", 1, 14);
        edges.sentence("PASS by some WORD (2);");
        stucksAre(INPUTS + "c3,0;", 2, 0);
        stucksAre(PASSING, 2, 2);
        stucksAre(INPUTS, 2, 4);
        edges.sentence("the lowest such one (3, 4, 5).");
        stucksAre("n8;g3,7,7;o7,8;", 3, 0);
        stucksAre("n8;g3,7,7;o7,8;", 4, 0);
        stucksAre("n8;g3,7,7;o7,8;", 5, 14);
        // Input 0 is both rails: all 64 are exposed, and all but its own two are latent.
        String one = "n8;" + "g5,0,0;".repeat(24) + "o0,0;";
        stucksAre(one, 0, 0);
        stucksAre(one, 1, 62);
        stucksAre(one, 4, 2);
        edges.same("the highest one, not exposed", lastIsLowest().stucks(3), 62);
        edges.same("the highest one, latent", lastIsLowest().stucks(4), 62);
        edges.same("how many", lastIsLowest().stucks(1), 2);
        edges.same("the lowest of one", oneNotExposed().stucks(3), 12);
        edges.sentence("BAD;");
        int[] bad = {-1, 6, Edges.MIN, Edges.MAX};
        for (int what : bad) {
            edges.refused("stucks(" + what + ")", x -> x.stucks(what), BAD);
        }
        edges.sentence("NONE (3 to 5): there is none.");
        for (int kind = 3; kind <= 5; kind++) {
            int what = kind;
            edges.refused("new", SelfChecks::new, "stucks(" + what + ")", x -> x.stucks(what), NONE);
            edges.same("how many", new SelfChecks().stucks(what - 3), 0);
        }
    }

    /** 32 wires of which the last alone goes nowhere. */
    private static SelfChecks lastIsLowest() {
        SelfChecks x = new SelfChecks();
        x.build(4);
        // Wires 26 to 30 hand the rails on, so that wire 31 alone goes nowhere.
        x.add(0, 22, 22);
        x.add(0, 25, 25);
        x.add(0, 26, 26);
        x.add(0, 27, 27);
        x.add(0, 28, 28);
        x.add(0, 0, 1);
        x.rails(30, 29);
        return x;
    }

    private void test() {
        edges.sentence("TESTS: how many (i = -1),");
        edges.same("one", Due.laid("n1;o0,0;").test(-1), 1);
        edges.same("two", Due.laid(PASSING).test(-1), 2);
        edges.same("four", new SelfChecks().test(-1), 4);
        edges.same("eight", Due.laid(EACH_WORD).test(-1), 8);
        edges.sentence("the i-th WORD.");
        int[] want = {5, 6, 9, 10};
        for (int i = 0; i < 4; i++) {
            edges.same("test(" + i + ")", new SelfChecks().test(i), want[i]);
        }
        SelfChecks back = new SelfChecks();
        edges.same("the last asked for first", back.test(3), 10);
        edges.same("then the first", back.test(0), 5);
        edges.sentence("BAD (i below -1);");
        edges.refused("test(-2)", x -> x.test(-2), BAD);
        edges.refused("test(MIN)", x -> x.test(Edges.MIN), BAD);
        edges.sentence("NONE: not so many.");
        edges.refused("one too many", x -> x.test(x.test(-1)), NONE);
        edges.refused("test(64)", x -> x.test(64), NONE);
        edges.refused("test(256)", x -> x.test(256), NONE);
        edges.refused("test(MAX)", x -> x.test(Edges.MAX), NONE);
    }

    private void both() {
        edges.sentence("BOTH: how many WORDS of the CODE have an OUT that is not VALID (what = 0),");
        edges.same("none", Due.laid(INPUTS).both(0, 3, 0), 0);
        edges.same("all", Due.laid(INPUTS).both(0, 2, 0), 4);
        edges.same("all of the code", Due.laid(INPUTS + "c3,0;").both(0, 2, 0), 2);
        edges.same("all of 256", Made.full().both(60, 63, 0), 256);
        edges.same("one of two", Due.laid("n1;g3,0,0;g0,0,0;o0,1;").both(3, 4, 0), 1);
        edges.sentence("that is VALID, but not as without them (1).");
        edges.same("all but the one that is so anyway", Due.laid(INPUTS).both(0, 3, 1), 3);
        edges.same("of the code", Due.laid(INPUTS + "c3,0;").both(0, 3, 1), 1);
        edges.same("where both are so anyway", Due.laid("n2;o0,1;c1,0;").both(0, 2, 1), 0);
        edges.same("from one that was not VALID", Due.laid("n2;o0,1;c1,0;").both(0, 3, 1), 1);
        edges.same("none of 256", Made.full().both(60, 63, 1), 0);
        edges.sentence("BAD (STUCKS of one WIRE, too).");
        bothRefused(0);
        bothRefused(1);
        edges.refused("what -1", x -> x.both(0, 3, -1), BAD);
        edges.refused("what 2", x -> x.both(0, 3, 2), BAD);
        for (int far : FAR) {
            edges.refused("what " + far, x -> x.both(0, 3, far), BAD);
            edges.refused("first " + far, x -> x.both(far, 0, 0), BAD);
            edges.refused("second " + far, x -> x.both(0, far, 0), BAD);
        }
        for (int s = 0; s < 8; s++) {
            for (int t = 0; t < 8; t++) {
                edges.same("both(" + s + ", " + t + ") is bad",
                        new SelfChecks().both(s, t, 0) == BAD ? 1 : 0, s / 2 == t / 2 ? 1 : 0);
            }
        }
        edges.holds("the last two wires", Made.full().both(63, 61, 0) != BAD);
    }

    private void bothRefused(int what) {
        edges.refused("first -1", x -> x.both(-1, 1, what), BAD);
        edges.refused("second -1", x -> x.both(1, -1, what), BAD);
        edges.refused("first one too high", x -> x.both(Made.stucks(x), 0, what), BAD);
        edges.refused("second one too high", x -> x.both(0, Made.stucks(x), what), BAD);
        edges.refused("one stuck twice", x -> x.both(0, 0, what), BAD);
        edges.refused("one wire at 0 and 1", x -> x.both(0, 1, what), BAD);
        edges.refused("one wire at 1 and 0", x -> x.both(1, 0, what), BAD);
        edges.refused("the last wire at 0 and 1",
                x -> x.both(Made.stucks(x) - 2, Made.stucks(x) - 1, what), BAD);
    }

    private void count() {
        edges.sentence("How many: 0 INPUTS, 1 GATES, 2 P, 3 Q, 4 KIND of CODE, 5 its NUMBER,");
        counts("least", Made.least(), 1, 0, 0, 0, 0, 0);
        counts("busy", Made.busy(), 4, 7, 10, 2, 3, 0);
        SelfChecks most = Made.full();
        most.rails(31, 31);
        most.code(2, 8);
        counts("full", most, 8, 24, 31, 31, 2, 8);
        edges.sentence("6 WORDS with VALID OUTS,");
        edges.same("none", Made.least().count(6), 0);
        edges.same("all of 256", Due.laid("n8;g3,7,7;o7,8;").count(6), 256);
        edges.same("also of those that are none of the code",
                Due.laid("n8;g3,7,7;o7,8;c1,0;").count(6), 256);
        edges.same("half", Due.laid("n8;o6,7;c1,0;").count(6), 128);
        edges.sentence("7 changes that can be UNDONE,");
        SelfChecks x = new SelfChecks();
        for (int changes = 0; changes <= 8; changes++) {
            edges.same("behind " + changes, x.count(7), Math.min(changes, 6));
            x.rails(0, changes);
        }
        edges.sentence("8 letters of THE TEXT.");
        SelfChecks text = new SelfChecks();
        for (int letters = 0; letters <= 200; letters++) {
            edges.same("behind " + letters, text.count(8), letters);
            text.write('n');
        }
        text.write('n');
        edges.same("200 at most", text.count(8), 200);
        text.wipe();
        edges.same("behind wipe", text.count(8), 0);
        edges.sentence("BAD.");
        int[] bad = {-1, 9, Edges.MIN, Edges.MAX};
        for (int what : bad) {
            edges.refused("count(" + what + ")", y -> y.count(what), BAD);
        }
    }

    private void counts(String which, SelfChecks x, int... want) {
        for (int what = 0; what < want.length; what++) {
            edges.same("count(" + what + ") of " + which, x.count(what), want[what]);
        }
    }
}

/** Promises 19 to 25: stuck, exposes, is, stucks, test, both, count. */
public final class StucksTest {
    private static final Due due = new Due();
    private static final int MIN = Integer.MIN_VALUE;
    private static final int MAX = Integer.MAX_VALUE;

    /** Rails: input 0 and its NOT. Always unlike, but a stuck input passes for the other word. */
    private static final String PASSING = "n1;g3,0,0;o0,1;";
    /** The same with a gate that goes nowhere. */
    private static final String LATENT = "n1;g3,0,0;g0,0,0;o0,1;";

    public static void main(String[] args) {
        stuck();
        stuckOfNoValidOut();
        stuckRefused();
        exposes();
        is();
        stucks();
        test();
        testTakesTheMostFirst();
        both();
        bothRefused();
        count();
        widest();
        due.end();
    }

    private static void stuck(SelfChecks x, int s, int... want) {
        for (int what = 0; what < 5; what++) {
            due.same("stuck(" + s + ", " + what + ")", x.stuck(s, what), want[what]);
        }
    }

    private static void stuck() {
        SelfChecks x = Due.laid(LATENT);
        stuck(x, 0, 0, 1, SelfChecks.NONE, 1, 0);
        stuck(x, 1, 0, 1, SelfChecks.NONE, 0, 0);
        stuck(x, 2, 1, 0, 0, SelfChecks.NONE, 0);
        stuck(x, 3, 1, 0, 1, SelfChecks.NONE, 0);
        stuck(x, 4, 0, 0, SelfChecks.NONE, SelfChecks.NONE, 1);
        stuck(x, 5, 0, 0, SelfChecks.NONE, SelfChecks.NONE, 1);
        // With word 1 alone in the code, what word 0 shows does not count.
        x.code(1, 1);
        stuck(x, 0, 0, 1, SelfChecks.NONE, 1, 0);
        stuck(x, 1, 0, 0, SelfChecks.NONE, SelfChecks.NONE, 1);
        stuck(x, 2, 0, 0, SelfChecks.NONE, SelfChecks.NONE, 1);
        stuck(x, 3, 1, 0, 1, SelfChecks.NONE, 0);
    }

    /** Both rails are one wire: no OUT is VALID, so all is exposed, also what changes nothing. */
    private static void stuckOfNoValidOut() {
        SelfChecks x = Due.laid("n2;o0,0;");
        stuck(x, 0, 4, 0, 0, SelfChecks.NONE, 0);
        stuck(x, 2, 4, 0, 0, SelfChecks.NONE, 1);
        x.code(1, 0);
        stuck(x, 0, 1, 0, 0, SelfChecks.NONE, 1);
        stuck(x, 1, 1, 0, 0, SelfChecks.NONE, 0);
        // A stuck can make a VALID OUT of one that is not: that passes, too.
        x.rails(0, 1);
        stuck(x, 1, 0, 1, SelfChecks.NONE, 0, 0);
    }

    private static void stuckRefused() {
        SelfChecks x = Due.laid(PASSING);
        due.same("stuck(4, 0)", x.stuck(4, 0), SelfChecks.BAD);
        due.same("stuck(-1, 0)", x.stuck(-1, 0), SelfChecks.BAD);
        due.same("stuck(0, 5)", x.stuck(0, 5), SelfChecks.BAD);
        due.same("stuck(0, -1)", x.stuck(0, -1), SelfChecks.BAD);
        due.same("stuck(MAX, 0)", x.stuck(MAX, 0), SelfChecks.BAD);
        due.same("stuck(MIN, MIN)", x.stuck(MIN, MIN), SelfChecks.BAD);
    }

    private static void exposes() {
        SelfChecks x = Due.laid(LATENT);
        due.same("exposes(0)", x.exposes(0), 1);
        due.same("exposes(1)", x.exposes(1), 1);
        due.same("exposes(2)", x.exposes(2), SelfChecks.BAD);
        due.same("exposes(-1)", x.exposes(-1), SelfChecks.BAD);
        due.same("exposes(MAX)", x.exposes(MAX), SelfChecks.BAD);
        due.same("exposes(MIN)", x.exposes(MIN), SelfChecks.BAD);
        x.code(1, 1);
        due.same("exposes(0), no word of the code", x.exposes(0), SelfChecks.BAD);
        due.same("exposes(1), one of the code", x.exposes(1), 1);
        x.rails(0, 0);
        due.same("exposes(1), no OUT is VALID", x.exposes(1), 6);
    }

    private static void is(String text, int disjoint, int testing, int secure) {
        SelfChecks x = Due.laid(text);
        due.same(text + " is(0)", x.is(0), disjoint);
        due.same(text + " is(1)", x.is(1), testing);
        due.same(text + " is(2)", x.is(2), secure);
    }

    private static void is() {
        is("n2;o0,1;c3,0;", 1, 1, 1);
        is(PASSING, 1, 0, 0);
        // A word of the code without a VALID OUT: not disjoint.
        is("n2;o0,1;c0,0;", 0, 1, 0);
        // A word outside of the code with one: not disjoint. The code is 00.
        is("n2;o0,1;c1,0;", 0, 0, 0);
        // All words of the code have a VALID OUT, but so have those outside of it.
        is("n2;g3,0,1;g0,0,1;o2,3;c3,0;", 0, 0, 0);
        // A gate that goes nowhere: its stucks are not exposed, but do not pass either.
        is("n2;g0,0,0;o0,1;c3,0;", 1, 0, 1);
        // Both rails one wire: all is exposed, nothing passes.
        is("n1;o0,0;", 0, 1, 1);
        SelfChecks x = new SelfChecks();
        due.same("is(3)", x.is(3), SelfChecks.BAD);
        due.same("is(-1)", x.is(-1), SelfChecks.BAD);
        due.same("is(MAX)", x.is(MAX), SelfChecks.BAD);
        due.same("is(MIN)", x.is(MIN), SelfChecks.BAD);
    }

    private static void stucks(String text, int... want) {
        SelfChecks x = Due.laid(text);
        for (int what = 0; what < 6; what++) {
            due.same(text + " stucks(" + what + ")", x.stucks(what), want[what]);
        }
    }

    private static void stucks() {
        stucks(PASSING, 2, 0, 2, 0, SelfChecks.NONE, 0);
        stucks(LATENT, 4, 2, 2, 0, 4, 0);
        stucks("n2;o0,1;c3,0;", 0, 0, 0, SelfChecks.NONE, SelfChecks.NONE, SelfChecks.NONE);
        // Word 0 alone: stucks at 0 change nothing, OUT 0 is not VALID; those at 1 pass.
        stucks("n2;o0,1;c1,0;", 2, 2, 2, 1, 0, 1);
        SelfChecks x = new SelfChecks();
        due.same("stucks(6)", x.stucks(6), SelfChecks.BAD);
        due.same("stucks(-1)", x.stucks(-1), SelfChecks.BAD);
        due.same("stucks(MAX)", x.stucks(MAX), SelfChecks.BAD);
        due.same("stucks(MIN)", x.stucks(MIN), SelfChecks.BAD);
    }

    private static void test(String text, int... words) {
        SelfChecks x = Due.laid(text);
        due.same(text + " test(-1)", x.test(-1), words.length);
        for (int i = 0; i < words.length; i++) {
            due.same(text + " test(" + i + ")", x.test(i), words[i]);
        }
        due.same(text + " one too many", x.test(words.length), SelfChecks.NONE);
        due.same(text + " test(MAX)", x.test(MAX), SelfChecks.NONE);
        due.same(text + " test(-2)", x.test(-2), SelfChecks.BAD);
        due.same(text + " test(MIN)", x.test(MIN), SelfChecks.BAD);
    }

    private static void test() {
        test(PASSING, 0, 1);
        test("n2;o0,1;c3,0;", 1, 2);
        // No OUT is VALID: the lowest word exposes all.
        test("n2;o0,0;", 0);
        // Of the code there is word 1 alone; stucks that it does not expose need no test.
        test("n1;g3,0,0;o0,1;c1,1;", 1);
        test("n4;g0,0,2;g0,1,3;g1,4,5;g0,0,3;g0,1,2;g1,7,8;o6,9;c3,0;", 5, 6, 9, 10);
        // P is always 0, Q always 1, whatever the word: the lowest exposes all that can be.
        test("n1;g2,0,0;g5,0,0;o1,2;", 0);
    }

    /**
     * Rails: inputs 0 and 1; code ALL. OUT is not VALID by 00 and 11. Word 0 exposes 0, 2 (and
     * nothing of 1, 3); word 1 exposes 0, 3; word 2 exposes 1, 2; word 3 exposes 1, 3.
     * So 0, then 3 (it alone exposes two more), although 1 and 2 stand ahead of it.
     */
    private static void testTakesTheMostFirst() {
        test("n2;o0,1;", 0, 3);
        // Rails: 0 AND 1, and input 0. Word 0 exposes 0 2 3 4, word 1 0 3 5, word 2 0 1 2 3 4,
        // word 3 0 1 3 5: so 2, then of 1 and 3 for the stuck 5 the lower one.
        test("n2;g0,0,1;o2,0;", 2, 1);
    }

    private static void both() {
        SelfChecks x = Due.laid(PASSING);
        // wants: not VALID, passing, for each stuck of the input with each of the gate
        int[][] want = {{0, 2, 2, 0}, {0, 3, 0, 1}, {1, 2, 0, 1}, {1, 3, 2, 0}};
        for (int[] row : want) {
            int s = row[0];
            int t = row[1];
            due.same("both(" + s + ", " + t + ", 0)", x.both(s, t, 0), row[2]);
            due.same("both(" + t + ", " + s + ", 0)", x.both(t, s, 0), row[2]);
            due.same("both(" + s + ", " + t + ", 1)", x.both(s, t, 1), row[3]);
            due.same("both(" + t + ", " + s + ", 1)", x.both(t, s, 1), row[3]);
        }
        x.code(1, 0);
        due.same("both(0, 2, 0), word 0 alone", x.both(0, 2, 0), 1);
        due.same("both(0, 3, 1), word 0 alone", x.both(0, 3, 1), 0);
        due.same("both(1, 2, 1), word 0 alone", x.both(1, 2, 1), 1);
    }

    private static void bothRefused() {
        SelfChecks x = Due.laid(PASSING);
        int[][] bad = {{0, 0, 0}, {0, 1, 0}, {1, 0, 0}, {2, 3, 1}, {4, 0, 0}, {0, 4, 0},
                {-1, 2, 0}, {2, -1, 0}, {0, 2, 2}, {0, 2, -1}, {MAX, MIN, 0}, {0, 2, MAX}};
        for (int[] row : bad) {
            due.same("both(" + row[0] + ", " + row[1] + ", " + row[2] + ")",
                    x.both(row[0], row[1], row[2]), SelfChecks.BAD);
        }
    }

    private static void count() {
        SelfChecks x = Due.laid("n3;g1,0,1;g2,3,2;o4,1;c2,1;");
        x.gate(0, 0, 0, 1);
        x.gate(0, 1, 0, 1);
        Due.type(x, "n1");
        // (0 OR 1) UNLIKE 2 is unlike input 1 by the words 1, 4, 6 and 7.
        int[] want = {3, 2, 4, 1, 2, 1, 4, 2, 2};
        for (int what = 0; what < want.length; what++) {
            due.same("count(" + what + ")", x.count(what), want[what]);
        }
        due.same("count(9)", x.count(9), SelfChecks.BAD);
        due.same("count(-1)", x.count(-1), SelfChecks.BAD);
        due.same("count(MAX)", x.count(MAX), SelfChecks.BAD);
        due.same("count(MIN)", x.count(MIN), SelfChecks.BAD);
    }

    /** All 64 stucks: a chain of NOTs behind input 7, its last two wires the rails. */
    private static void widest() {
        SelfChecks x = Due.laid("n8;");
        for (int g = 0; g < 24; g++) {
            x.add(3, 7 + g, 7 + g);
        }
        x.rails(30, 31);
        due.same("all OUTS are VALID", x.count(6), 256);
        due.same("disjoint", x.is(0), 1);
        // Inputs 0 to 6 go nowhere: 14 stucks.
        due.same("latent", x.stucks(1), 14);
        due.same("the lowest latent", x.stucks(4), 0);
        // Only wire 31's stucks make the rails alike; wires 7 to 30 pass for the other word.
        due.same("not exposed", x.stucks(0), 62);
        due.same("passing", x.stucks(2), 48);
        due.same("the lowest passing", x.stucks(5), 14);
        stuck(x, 62, 128, 0, 128, SelfChecks.NONE, 0);
        stuck(x, 63, 128, 0, 0, SelfChecks.NONE, 0);
        due.same("stuck(64, 0)", x.stuck(64, 0), SelfChecks.BAD);
        due.same("tests", x.test(-1), 2);
        due.same("test(0)", x.test(0), 0);
        due.same("test(1)", x.test(1), 128);
        due.same("both(60, 62, 0)", x.both(60, 62, 0), 256);
        due.same("both(61, 62, 1)", x.both(61, 62, 1), 128);
        due.same("both(62, 64, 0)", x.both(62, 64, 0), SelfChecks.BAD);
        x.rails(31, 31);
        due.same("exposes all", x.exposes(255), 64);
        due.same("testing", x.is(1), 1);
        due.same("secure", x.is(2), 1);
    }
}

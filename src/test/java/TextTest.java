/** Promises 1 to 5: a new object, write, wipe, fault, lay. */
public final class TextTest {
    private static final Due due = new Due();
    private static final String AT_FIRST =
            "n4;g0,0,2;g0,1,3;g1,4,5;g0,0,3;g0,1,2;g1,7,8;o6,9;c3,0;";

    public static void main(String[] args) {
        newObject();
        write();
        wipe();
        faultOfWholeTexts();
        faultOfInputs();
        faultOfGates();
        faultOfRails();
        faultOfCodes();
        faultIsTheFirstOne();
        faultOfWhatIsThereNow();
        faultAtTheEndOfFullTexts();
        lay();
        layForgetsEarlierTexts();
        layRefused();
        layEndsUndoing();
        due.end();
    }

    private static void newObject() {
        SelfChecks x = new SelfChecks();
        due.same("letters at first", x.count(8), 0);
        due.same("changes at first", x.count(7), 0);
        due.holds("the circuit at first is as told",
                Due.state(x).equals(Due.state(Due.laid(AT_FIRST))));
        due.same("wipe at first", x.wipe(), 0);
        due.same("undo at first", x.undo(), SelfChecks.NO);
        SelfChecks other = new SelfChecks();
        x.build(1);
        x.write('n');
        due.same("another object's inputs stay", other.count(0), 4);
        due.same("another object's text stays", other.count(8), 0);
    }

    private static void write() {
        SelfChecks x = new SelfChecks();
        due.same("write(31)", x.write(31), SelfChecks.BAD);
        due.same("write(127)", x.write(127), SelfChecks.BAD);
        due.same("write(-1)", x.write(-1), SelfChecks.BAD);
        due.same("write(65536 + 'n')", x.write(65536 + 'n'), SelfChecks.BAD);
        due.same("write(MIN)", x.write(Integer.MIN_VALUE), SelfChecks.BAD);
        due.same("write(MAX)", x.write(Integer.MAX_VALUE), SelfChecks.BAD);
        due.same("write(32)", x.write(32), 1);
        due.same("write(126)", x.write(126), 2);
        for (int length = 3; length <= 200; length++) {
            due.same("write to " + length, x.write('n'), length);
        }
        due.same("write the 201st", x.write('n'), SelfChecks.FULL);
        due.same("write a bad 201st", x.write(31), SelfChecks.BAD);
        due.same("letters", x.count(8), 200);
    }

    private static void wipe() {
        SelfChecks x = new SelfChecks();
        Due.type(x, "n3;");
        due.same("wipe", x.wipe(), 3);
        due.same("wipe again", x.wipe(), 0);
        due.same("fault of nothing", x.fault(), SelfChecks.NONE);
        due.same("inputs stay", x.count(0), 4);
        due.same("write behind wipe", x.write('n'), 1);
        fillAndWipe(x);
    }

    private static void fillAndWipe(SelfChecks x) {
        for (int i = 1; i < 200; i++) {
            x.write('a');
        }
        due.same("wipe of a full text", x.wipe(), 200);
        due.same("write into it then", x.write('b'), 1);
    }

    private static void fault(String text, int want) {
        SelfChecks x = new SelfChecks();
        Due.type(x, text);
        String ahead = Due.state(x);
        due.same("fault of '" + text + "'", x.fault(), want);
        due.holds("fault changes nothing", ahead.equals(Due.state(x)));
        due.same("lay tells of a fault of '" + text + "'", x.lay() == SelfChecks.NO ? 1 : 0,
                want != SelfChecks.NONE || text.isEmpty() ? 1 : 0);
    }

    private static void faultOfWholeTexts() {
        fault("", SelfChecks.NONE);
        fault(AT_FIRST, SelfChecks.NONE);
        fault(";", 0);
        fault(" ", 0);
        fault("n4; ", 3);
        fault("n4;;", 3);
        fault(" n4;", 0);
        fault("n4;o0,0;;", 8);
        fault("n4;x1,1;", 3);
        fault("n4;x0;", 3);
        fault("n4;x;", 3);
        fault("N4;", 0);
        fault("n4;G0,0,0;", 3);
        fault("n4;g0,0,0;x", 10);
    }

    private static void faultOfInputs() {
        fault("n", 0);
        fault("n;", 0);
        fault("n4", 0);
        fault("n0;", 0);
        fault("n9;", 0);
        fault("n1;", SelfChecks.NONE);
        fault("n8;", SelfChecks.NONE);
        fault("n08;", SelfChecks.NONE);
        fault("n00;", 0);
        fault("n10;", 0);
        fault("n004;", 0);
        fault("n4,;", 0);
        fault("n4,4;", 0);
        fault("n-4;", 0);
        fault("n 4;", 0);
        fault("n4;n4;", 3);
        fault("n4;g0,0,0;n4;", 10);
        fault("g0,0,0;n4;", 0);
        fault("o0,0;n4;", 0);
        fault("c0,0;n4;", 0);
    }

    private static void faultOfGates() {
        fault("n1;g5,0,0;g0,1,0;", SelfChecks.NONE);
        fault("n1;g6,0,0;", 3);
        fault("n1;g0,1,0;", 3);
        fault("n1;g0,0,1;", 3);
        fault("n1;g0,0,0;g0,2,0;", 10);
        fault("n1;g0,0,0;g0,0,2;", 10);
        fault("n1;g00,00,00;", SelfChecks.NONE);
        fault("n1;g000,0,0;", 3);
        fault("n1;g0,0,000;", 3);
        fault("n1;g0,0;", 3);
        fault("n1;g0,0,0,0;", 3);
        fault("n1;g0,,0;", 3);
        fault("n1;g0;0;0;", 3);
        fault("n1;g0,0,0", 3);
        fault("n1;g", 3);
        StringBuilder many = new StringBuilder("n1;");
        for (int i = 0; i < 24; i++) {
            many.append("g0,0,0;");
        }
        fault(many.toString(), SelfChecks.NONE);
        fault(many + "g0,0,0;", 171);
        fault(many + "o24,24;", SelfChecks.NONE);
        fault(many + "o25,24;", 171);
    }

    private static void faultOfRails() {
        fault("n2;o1,1;", SelfChecks.NONE);
        fault("n2;o2,1;", 3);
        fault("n2;o1,2;", 3);
        fault("n2;o2,1;g0,0,0;", 3);
        fault("n2;g0,0,0;o2,1;o0,2;", SelfChecks.NONE);
        fault("n2;o1;", 3);
        fault("n2;o1,1,1;", 3);
        fault("n2;o1,1", 3);
        fault("n2;o01,001;", 3);
    }

    private static void faultOfCodes() {
        fault("n3;c0,0;", SelfChecks.NONE);
        fault("n3;c0,1;", 3);
        fault("n3;c1,0;c1,3;", SelfChecks.NONE);
        fault("n3;c1,4;", 3);
        fault("n3;c2,0;c2,3;", SelfChecks.NONE);
        fault("n3;c2,4;", 3);
        fault("n3;c3,0;", 3);
        fault("n4;c3,0;", SelfChecks.NONE);
        fault("n4;c3,1;", 3);
        fault("n4;c4,0;", 3);
        fault("n4;c1;", 3);
        fault("n4;c1,1,1;", 3);
    }

    private static void faultIsTheFirstOne() {
        fault("n4;g9,0,0;n4;o99,0;", 3);
        fault("n4;o0,0;g9,0,0;x", 8);
        fault("n9;n4;", 0);
    }

    /** Letters that were wiped tell nothing any more. */
    private static void faultOfWhatIsThereNow() {
        SelfChecks x = new SelfChecks();
        Due.type(x, "n4;c1,22;");
        x.wipe();
        Due.type(x, "n4");
        due.same("fault without the wiped ;", x.fault(), 0);
        Due.type(x, ";c1,2");
        due.same("fault without the wiped 2;", x.fault(), 3);
        x.write(';');
        due.same("no fault with a ; of its own", x.fault(), SelfChecks.NONE);
        due.same("lay", x.lay(), 4);
        due.same("the number without the wiped figure", x.count(5), 2);
    }

    /** 193 letters of ITEMS, and seven more. */
    private static void faultAtTheEndOfFullTexts() {
        String ahead = "n4;" + "o0,0;".repeat(38);
        fault(ahead + "o0,0;" + "c1", 198);
        fault(ahead + "o0,00;" + "c", 199);
        fault(ahead + "g0,0,10", 193);
        fault(ahead + "g0,00,0", 193);
        fault(ahead + "g0,0,0;", SelfChecks.NONE);
    }

    private static void layForgetsEarlierTexts() {
        SelfChecks x = new SelfChecks();
        Due.type(x, "n3;g0,0,1;o3,2;c1,2;");
        due.same("lay", x.lay(), 4);
        x.wipe();
        Due.type(x, "n2;");
        due.same("lay less", x.lay(), 2);
        int[] want = {2, 0, 0, 0, 0, 0};
        for (int what = 0; what < want.length; what++) {
            due.same("count(" + what + ") then", x.count(what), want[what]);
        }
    }

    private static void lay() {
        SelfChecks x = new SelfChecks();
        Due.type(x, "n3;");
        due.same("lay n3;", x.lay(), 3);
        due.same("text stays", x.count(8), 3);
        due.same("inputs", x.count(0), 3);
        due.same("gates", x.count(1), 0);
        due.same("P without rails told", x.count(2), 0);
        due.same("Q without rails told", x.count(3), 0);
        due.same("code without one told", x.count(4), 0);
        due.same("its number", x.count(5), 0);
        Due.type(x, "g2,0,1;o1,2;c1,2;g5,3,2;o4,3;c2,1;");
        due.same("lay with gates", x.lay(), 5);
        due.same("gates", x.count(1), 2);
        due.same("the last rails count, P", x.count(2), 4);
        due.same("the last rails count, Q", x.count(3), 3);
        due.same("the last code counts", x.count(4), 2);
        due.same("and its number", x.count(5), 1);
        due.same("gate 1's kind", x.gateOf(1, 0), 5);
        due.same("gate 1's first", x.gateOf(1, 1), 3);
        due.same("gate 1's second", x.gateOf(1, 2), 2);
        due.same("word(-1) behind lay", x.word(-1), 2);
        due.same("lay again", x.lay(), 5);
    }

    private static void layRefused() {
        SelfChecks x = new SelfChecks();
        x.rails(0, 1);
        String ahead = Due.state(x);
        due.same("lay nothing", x.lay(), SelfChecks.NO);
        due.holds("it changes nothing", ahead.equals(Due.state(x)));
        Due.type(x, "n2;g0,0,1;o2,3;");
        ahead = Due.state(x);
        due.same("lay with a fault", x.lay(), SelfChecks.NO);
        due.holds("that changes nothing", ahead.equals(Due.state(x)));
        due.same("undo is still there", x.undo(), 0);
        due.same("P is back", x.count(2), 6);
    }

    private static void layEndsUndoing() {
        SelfChecks x = new SelfChecks();
        x.rails(0, 1);
        x.code(0, 0);
        Due.type(x, "n2;");
        due.same("lay", x.lay(), 2);
        due.same("none can be undone", x.count(7), 0);
        due.same("undo", x.undo(), SelfChecks.NO);
        due.same("inputs stay laid", x.count(0), 2);
        x.code(3, 0);
        due.same("a change behind lay can be undone", x.undo(), 0);
        due.same("to what was laid", x.count(4), 0);
        due.same("text is not undone", x.count(8), 3);
    }
}

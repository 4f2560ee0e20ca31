/** Counts what a test looks at, and prints each answer that is not the one that is due. */
final class Due {
    private int right = 0;
    private int wrong = 0;

    void same(String what, long got, long want) {
        if (got == want) {
            right++;
            return;
        }
        wrong++;
        System.out.println(what + " answered " + got + ", due is " + want);
    }

    void holds(String what, boolean is) {
        same(what, is ? 1 : 0, 1);
    }

    int looks() {
        return right + wrong;
    }

    boolean anyWrong() {
        return wrong != 0;
    }

    void end() {
        System.out.println(right + " as due, " + wrong + " not");
        if (wrong != 0) {
            System.exit(1);
        }
    }

    static void type(SelfChecks x, String text) {
        for (int i = 0; i < text.length(); i++) {
            x.write(text.charAt(i));
        }
    }

    static SelfChecks laid(String text) {
        SelfChecks x = new SelfChecks();
        type(x, text);
        if (x.lay() < 0) {
            throw new IllegalStateException("this text does not lay: " + text);
        }
        x.wipe();
        return x;
    }

    /** All that the calls tell of how a circuit is made, so that two states can be compared. */
    static String state(SelfChecks x) {
        StringBuilder all = new StringBuilder();
        for (int what = 0; what <= 8; what++) {
            all.append(x.count(what)).append(' ');
        }
        int gates = x.count(1);
        for (int g = 0; g < gates; g++) {
            all.append('g').append(x.gateOf(g, 0)).append(',').append(x.gateOf(g, 1)).append(',')
                    .append(x.gateOf(g, 2)).append(' ');
        }
        return all.toString();
    }
}

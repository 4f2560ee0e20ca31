import java.util.Random;

/** Runs of up to 512 random calls, seeded, answered by the class and by the plain model. */
public final class RandomRunsTest {
    private static final int RUNS = 2500;
    private static final int MOST_CALLS = 512;
    private static final int[] FAR = {Integer.MIN_VALUE, Integer.MAX_VALUE, -1, -2, 1 << 30, 256, 64};
    private static final Due due = new Due();

    private final Random random;
    private final SelfChecks x = new SelfChecks();
    private final PlainModel model = new PlainModel();
    private final int seed;
    private int calls = 0;

    private RandomRunsTest(int seed) {
        this.seed = seed;
        random = new Random(seed);
    }

    public static void main(String[] args) {
        for (int seed = 1; seed <= RUNS && !due.anyWrong(); seed++) {
            new RandomRunsTest(seed).run();
        }
        due.end();
    }

    private void run() {
        int most = 100 + random.nextInt(MOST_CALLS - 99);
        while (calls < most && !due.anyWrong()) {
            int kind = random.nextInt(48);
            // A text is many calls at once, so it comes seldom.
            if (kind == 0) {
                text();
            } else if (kind <= 12) {
                change();
            } else {
                ask();
            }
        }
    }

    /** Every call on x goes through here, since what calls behind the last one answer is free. */
    private void same(String call, int got, int want) {
        calls++;
        if (calls > MOST_CALLS) {
            return;
        }
        due.same("seed " + seed + ", call " + calls + ": " + call, got, want);
    }

    /** Mostly a number below the bound, sometimes just outside, seldom far away. */
    private int about(int bound) {
        int kind = random.nextInt(40);
        if (kind == 0) {
            return FAR[random.nextInt(FAR.length)];
        }
        return kind == 1 ? bound : kind == 2 ? -1 : random.nextInt(Math.max(bound, 1));
    }

    private int wires() {
        return model.count(0) + model.count(1);
    }

    private void text() {
        same("wipe", x.wipe(), model.wipe());
        String text = someText();
        for (int i = 0; i < text.length(); i++) {
            same("write", x.write(text.charAt(i)), model.write(text.charAt(i)));
        }
        same("fault of " + text, x.fault(), model.fault());
        same("lay of " + text, x.lay(), model.lay());
    }

    private String someText() {
        int n = 1 + random.nextInt(random.nextInt(4) == 0 ? 8 : 5);
        StringBuilder text = new StringBuilder("n" + n + ";");
        int gates = random.nextInt(random.nextInt(3) == 0 ? 26 : 7);
        for (int g = 0; g < gates; g++) {
            text.append("g" + random.nextInt(6) + "," + near(n + g) + "," + near(n + g) + ";");
            if (random.nextInt(12) == 0) {
                text.append("c" + random.nextInt(4) + "," + random.nextInt(n + 1) + ";");
            }
        }
        text.append("o" + near(n + gates) + "," + near(n + gates) + ";");
        if (random.nextBoolean()) {
            int kind = random.nextInt(4);
            text.append("c" + kind + "," + (kind % 3 == 0 ? 0 : random.nextInt(n + 1)) + ";");
        }
        if (random.nextInt(3) == 0) {
            spoil(text);
        }
        return text.toString();
    }

    /** Wires close to the last one more often, so that circuits are deep. */
    private int near(int bound) {
        return Math.max(random.nextInt(bound), random.nextInt(bound));
    }

    private void spoil(StringBuilder text) {
        int at = random.nextInt(text.length());
        String signs = "0123456789;,,ngoc x~";
        switch (random.nextInt(3)) {
            case 0 -> text.deleteCharAt(at);
            case 1 -> text.insert(at, signs.charAt(random.nextInt(signs.length())));
            default -> text.setCharAt(at, signs.charAt(random.nextInt(signs.length())));
        }
    }

    private void change() {
        int a = about(wires());
        int b = about(wires());
        int k = about(6);
        int g = about(model.count(1));
        int number = random.nextInt(3) == 0 ? 0 : about(model.count(0) + 1);
        int m = about(random.nextInt(4) == 0 ? 6 : 3);
        switch (random.nextInt(12)) {
            case 0, 1 -> same("gate " + g + " " + k + " " + a + " " + b,
                    x.gate(g, k, a, b), model.gate(g, k, a, b));
            case 2, 3, 4 -> same("add " + k + " " + a + " " + b, x.add(k, a, b), model.add(k, a, b));
            case 5, 6 -> same("rails " + a + " " + b, x.rails(a, b), model.rails(a, b));
            case 7, 8 -> same("code " + k + " " + number, x.code(k, number), model.code(k, number));
            case 9 -> same("build " + m, x.build(m), model.build(m));
            case 10 -> addMany();
            default -> same("undo", x.undo(), model.undo());
        }
    }

    private void addMany() {
        for (int i = random.nextInt(10); i > 0; i--) {
            int k = random.nextInt(6);
            int a = near(wires());
            int b = near(wires());
            same("add " + k + " " + a + " " + b, x.add(k, a, b), model.add(k, a, b));
        }
    }

    private void ask() {
        int word = about(1 << model.count(0));
        int s = about(2 * wires());
        int t = about(2 * wires());
        int w = about(wires());
        int what = about(10);
        int i = about(10) - 1;
        String all = " word " + word + " s " + s + " t " + t + " w " + w + " what " + what + " i " + i;
        switch (random.nextInt(16)) {
            case 0 -> same("gateOf" + all, x.gateOf(w, what % 5), model.gateOf(w, what % 5));
            case 1 -> same("wire" + all, x.wire(word, w), model.wire(word, w));
            case 2, 3 -> same("out" + all, x.out(word, s), model.out(word, s));
            case 4 -> same("word" + all, x.word(i), model.word(i));
            case 5 -> same("rank" + all, x.rank(word), model.rank(word));
            case 6 -> same("missed", x.missed(), model.missed());
            case 7 -> same("near", x.near(), model.near());
            case 8, 9 -> same("stuck" + all, x.stuck(s, what % 6), model.stuck(s, what % 6));
            case 10 -> same("exposes" + all, x.exposes(word), model.exposes(word));
            case 11 -> same("is" + all, x.is(what % 4), model.is(what % 4));
            case 12 -> same("stucks" + all, x.stucks(what % 7), model.stucks(what % 7));
            case 13 -> same("test" + all, x.test(i), model.test(i));
            case 14 -> same("both" + all, x.both(s, t, what % 3), model.both(s, t, what % 3));
            default -> same("count" + all, x.count(what), model.count(what));
        }
    }
}

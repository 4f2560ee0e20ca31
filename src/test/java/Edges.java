import java.io.IOException;

/** Goes through the document's sentences; each has answers that are due at its edges. */
final class Edges {
    static final int MIN = Integer.MIN_VALUE;
    static final int MAX = Integer.MAX_VALUE;
    private static final int MOST_UNDOS = 6;

    interface Call {
        int on(SelfChecks x);
    }

    private final Due due = new Due();
    private final Doc doc = new Doc();
    private String title = "";
    private String sentence = "";
    private int lookedAt = -1;
    private int sentences = 0;

    Edges() throws IOException { }

    void section(String name) {
        endSentence();
        title = name;
        sentence = "";
    }

    /** What is looked at from here on is what these words of the section ask for. */
    void sentence(String words) {
        endSentence();
        sentence = words;
        sentences++;
        due.holds(title + " says '" + words + "'", doc.quote(title, words));
        lookedAt = due.looks();
    }

    /** Words that ask for nothing that a call could answer. */
    void asksNothing(String words) {
        endSentence();
        due.holds(title + " says '" + words + "'", doc.quote(title, words));
    }

    private void endSentence() {
        if (lookedAt >= 0) {
            due.holds(place() + "something was looked at", due.looks() > lookedAt);
        }
        lookedAt = -1;
    }

    private String place() {
        return title + ", '" + sentence + "': ";
    }

    void same(String call, int got, int want) {
        due.same(place() + call, got, want);
    }

    void holds(String what, boolean is) {
        due.holds(place() + what, is);
    }

    void fault(String text, int want) {
        SelfChecks x = new SelfChecks();
        Due.type(x, text);
        same("fault of '" + text + "'", x.fault(), want);
        same("lay of '" + text + "' is refused", x.lay() == SelfChecks.NO ? 1 : 0,
                want != SelfChecks.NONE || text.isEmpty() ? 1 : 0);
    }

    /** Refused on objects of all sizes; behind it all is as on a twin that was never asked. */
    void refused(String name, Call call, int want) {
        for (int i = 0; i < Made.ALL.length; i++) {
            refused(Made.NAMES[i], Made.ALL[i], name, call, want);
        }
    }

    void refused(String which, Made.Maker maker, String name, Call call, int want) {
        same(name + " (" + which + ")", call.on(maker.make()), want);
        changesNothing(which, maker, name, call);
    }

    void changesNothing(String which, Made.Maker maker, String name, Call call) {
        holds(name + " changes nothing (" + which + ")",
                whole(maker, call).equals(whole(maker, x -> 0)));
    }

    /**
     * All that can be told behind a call: what stands, what undoing brings back, what the text lays.
     * What is worked out is asked for behind each, since the call may have left something of it.
     */
    private static String whole(Made.Maker maker, Call call) {
        StringBuilder all = new StringBuilder();
        // An object for each, since no object may be asked too often.
        for (int undos = 0; undos <= MOST_UNDOS + 1; undos++) {
            SelfChecks x = maker.make();
            call.on(x);
            for (int i = 0; i < undos; i++) {
                all.append(x.undo()).append(' ');
            }
            all.append(Due.state(x)).append(workedOut(x)).append('\n');
        }
        SelfChecks x = maker.make();
        call.on(x);
        all.append(x.fault()).append(' ').append(x.lay()).append(' ');
        return all.append(Due.state(x)).append(workedOut(x)).toString();
    }

    private static String workedOut(SelfChecks x) {
        StringBuilder all = new StringBuilder();
        for (int i = -1; i < 5; i++) {
            all.append(x.word(i)).append(' ').append(x.test(i)).append(' ').append(x.is(i)).append(' ');
            all.append(x.stucks(i)).append(' ').append(x.stuck(1, i)).append(' ');
        }
        return all.append(x.missed()).append(' ').append(x.near()).append(' ').toString();
    }

    /** Each section has to be quoted to its last word, so that no sentence is forgotten. */
    void end() {
        endSentence();
        nothingLeft("What it is");
        nothingLeft("Terms");
        for (int promise = 1; promise <= 25; promise++) {
            nothingLeft("Promise " + promise);
        }
        System.out.println(sentences + " sentences");
        due.end();
    }

    private void nothingLeft(String section) {
        String left = doc.left(section);
        due.holds(section + " has words without a test: " + left, left.isEmpty());
    }
}

/** Promises 15 to 18: word, rank, missed, near. */
public final class CodeTest {
    private static final Due due = new Due();
    private static final int MIN = Integer.MIN_VALUE;
    private static final int MAX = Integer.MAX_VALUE;

    public static void main(String[] args) {
        code("n2;c0,0;", 0, 1, 2, 3);
        code("n3;c1,2;", 3, 5, 6);
        code("n3;c1,0;", 0);
        code("n3;c1,3;", 7);
        // Two inputs tell something: 0 of them is told by 10, one zero by 01, none by 00.
        code("n4;c2,2;", 3, 5, 6, 8);
        // Three tell something, but one bit has room for how many zeros modulo 2 alone.
        code("n4;c2,3;", 1, 2, 4, 7, 8, 11, 13, 14);
        code("n3;c2,0;", 0);
        code("n3;c2,3;", 0, 1, 2, 3, 4, 5, 6, 7);
        code("n1;c2,0;", 0);
        code("n3;c2,1;", 1, 2);
        code("n2;c3,0;", 1, 2);
        code("n6;c3,0;", 21, 22, 25, 26, 37, 38, 41, 42);
        refused();
        missedAndNear();
        due.end();
    }

    private static void code(String text, int... words) {
        SelfChecks x = Due.laid(text);
        due.same(text + " word(-1)", x.word(-1), words.length);
        for (int i = 0; i < words.length; i++) {
            due.same(text + " word(" + i + ")", x.word(i), words[i]);
        }
        due.same(text + " one too many", x.word(words.length), SelfChecks.NONE);
        int next = 0;
        for (int word = 0; word < 1 << x.count(0); word++) {
            boolean isNext = next < words.length && words[next] == word;
            due.same(text + " rank(" + word + ")", x.rank(word), isNext ? next : SelfChecks.NONE);
            next += isNext ? 1 : 0;
        }
    }

    private static void refused() {
        SelfChecks x = Due.laid("n8;");
        due.same("word(255)", x.word(255), 255);
        due.same("word(256)", x.word(256), SelfChecks.NONE);
        due.same("word(MAX)", x.word(MAX), SelfChecks.NONE);
        due.same("word(-2)", x.word(-2), SelfChecks.BAD);
        due.same("word(MIN)", x.word(MIN), SelfChecks.BAD);
        due.same("rank(255)", x.rank(255), 255);
        due.same("rank(256)", x.rank(256), SelfChecks.BAD);
        due.same("rank(-1)", x.rank(-1), SelfChecks.BAD);
        due.same("rank(MAX)", x.rank(MAX), SelfChecks.BAD);
        due.same("rank(MIN)", x.rank(MIN), SelfChecks.BAD);
    }

    private static void missedAndNear(String text, int missed, int near) {
        SelfChecks x = Due.laid(text);
        due.same(text + " missed", x.missed(), missed);
        due.same(text + " near", x.near(), near);
        due.same(text + " missed again", x.missed(), missed);
    }

    private static void missedAndNear() {
        missedAndNear("n1;", 2, 1);
        missedAndNear("n2;", 10, 1);
        // All words of N inputs: 3 to the N pairs of which one is part of the other.
        missedAndNear("n8;", 2 * (6561 - 256), 1);
        missedAndNear("n5;c1,2;", 0, 2);
        missedAndNear("n5;c1,5;", 0, SelfChecks.NONE);
        missedAndNear("n3;c2,0;", 0, SelfChecks.NONE);
        // 1, 2: unlike in both inputs, none part of the other.
        missedAndNear("n2;c3,0;", 0, 2);
        // 3, 5, 6, 8: counts of zeros miss nothing where there is room for them.
        missedAndNear("n4;c2,2;", 0, 2);
        // 1 2 4 are part of 7 (3), 8 of 11 13 14 (3), 1 of 11 13, 2 of 11 14, 4 of 13 14 (6).
        missedAndNear("n4;c2,3;", 24, 2);
        missedAndNear("n8;c3,0;", 0, 2);
        // Only the words 1 and 2, unlike in both.
        missedAndNear("n2;c2,1;", 0, 2);
    }
}

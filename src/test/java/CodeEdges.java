/** What the document says of codes, errors and NEAR, and promises 15 to 18. */
final class CodeEdges {
    private static final int BAD = SelfChecks.BAD;
    private static final int NONE = SelfChecks.NONE;
    private static final int[] FAR = {Edges.MIN, Edges.MAX};

    private final Edges edges;

    CodeEdges(Edges edges) {
        this.edges = edges;
    }

    void run() {
        edges.section("Terms");
        all();
        ones();
        zeros();
        zerosWrapAround();
        pairs();
        errors();
        nearTerm();
        edges.section("Promise 15");
        word();
        edges.section("Promise 16");
        rank();
        edges.section("Promise 17");
        missed();
        edges.section("Promise 18");
        near();
    }

    /** The code has these words and no others. */
    private void has(String text, int... words) {
        SelfChecks x = Due.laid(text);
        edges.same(text + " words", x.word(-1), words.length);
        int next = 0;
        int past = Made.words(x);
        for (int word = 0; word < past; word++) {
            boolean isNext = next < words.length && words[next] == word;
            edges.same(text + " rank(" + word + ")", x.rank(word), isNext ? next : NONE);
            next += isNext ? 1 : 0;
        }
    }

    /** What code(kind, ..) answers for numbers from just below to just above what can be. */
    private void numbers(int n, int kind, int most) {
        for (int number = -1; number <= n + 2; number++) {
            // Told by a text with another code, so that none is as it was.
            SelfChecks x = Due.laid("n" + n + ";c" + (kind == 1 ? 2 : 1) + ",1;");
            boolean can = number >= 0 && number <= most;
            edges.same("code(" + kind + ", " + number + ") of " + n + " inputs is bad",
                    x.code(kind, number) == BAD ? 1 : 0, can ? 0 : 1);
            edges.same("changes", x.count(7), can ? 1 : 0);
        }
    }

    private void all() {
        edges.sentence("CODE, of a KIND with a NUMBER: 0 ALL: all WORDS (NUMBER 0).");
        for (int n = 1; n <= 8; n++) {
            numbers(n, 0, 0);
            SelfChecks x = Due.laid("n" + n + ";c1,0;");
            edges.same("all words of " + n, x.code(0, 0), 1 << n);
            edges.same("the highest", x.rank((1 << n) - 1), (1 << n) - 1);
            edges.same("kind -1", x.code(-1, 0), BAD);
            edges.same("kind 4", x.code(4, 0), BAD);
        }
        has("n1;", 0, 1);
        has("n2;c0,0;", 0, 1, 2, 3);
    }

    private void ones() {
        edges.sentence("1 ONES: those in which NUMBER INPUTS (0 to N) are 1.");
        for (int n = 1; n <= 8; n++) {
            numbers(n, 1, n);
            SelfChecks x = Due.laid("n" + n + ";c1,0;");
            edges.same("none is 1: one word", x.word(-1), 1);
            edges.same("it is 0", x.word(0), 0);
            edges.same("all are 1: one word", x.code(1, n), 1);
            edges.same("it is the highest", x.word(0), (1 << n) - 1);
        }
        has("n1;c1,0;", 0);
        has("n1;c1,1;", 1);
        has("n3;c1,1;", 1, 2, 4);
        has("n3;c1,2;", 3, 5, 6);
        has("n8;c1,1;", 1, 2, 4, 8, 16, 32, 64, 128);
        has("n8;c1,7;", 127, 191, 223, 239, 247, 251, 253, 254);
    }

    private void zeros() {
        edges.sentence("2 ZEROS: NUMBER (0 to N) INPUTS from INPUT 0 on tell something;");
        for (int n = 1; n <= 8; n++) {
            numbers(n, 2, n);
            SelfChecks x = Due.laid("n" + n + ";c2,0;");
            edges.same("none tells something: one word", x.word(-1), 1);
            edges.same("it is 0", x.word(0), 0);
            edges.same("all tell something: all words", x.code(2, n), 1 << n);
        }
        has("n1;c2,0;", 0);
        has("n1;c2,1;", 0, 1);
        // Input 0 tells, not input 2: 1 is a word, 4 is none.
        has("n3;c2,1;", 1, 2);
        edges.sentence("the others, from the first of them on, are a number, the lowest bit first:"
                + " how many of those that tell something are 0,");
        // Two zeros are 10: the second of the others is 1, so the word is 8, not 4.
        has("n4;c2,2;", 3, 5, 6, 8);
        // One tells of eight: its zero is 1 in input 1, its one is 0 in all of them.
        has("n8;c2,1;", 1, 2);
        has("n8;c2,2;", 3, 5, 6, 8);
        SelfChecks x = Due.laid("n8;c2,5;");
        edges.same("five zeros are 101", x.rank(5 << 5) >= 0 ? 1 : 0, 1);
        edges.same("no zeros are 000", x.rank(31) >= 0 ? 1 : 0, 1);
        edges.same("four zeros are 100", x.rank(4 << 5 | 16) >= 0 ? 1 : 0, 1);
        edges.same("four zeros are not 001", x.rank(1 << 5 | 16), NONE);
    }

    private void zerosWrapAround() {
        edges.sentence("modulo 2 to the (N - NUMBER).");
        // Two bits: three zeros are the last that have room, four begin again at 0.
        SelfChecks room = Due.laid("n5;c2,3;");
        edges.same("three zeros are 11", room.rank(3 << 3) >= 0 ? 1 : 0, 1);
        edges.same("and not 00", room.rank(0), NONE);
        SelfChecks round = Due.laid("n6;c2,4;");
        edges.same("four zeros are 00", round.rank(0), 0);
        edges.same("and not 11", round.rank(3 << 4), NONE);
        edges.same("three zeros are 11", round.rank(3 << 4 | 1) >= 0 ? 1 : 0, 1);
        // One bit: even or odd.
        has("n2;c2,1;", 1, 2);
        has("n3;c2,2;", 0, 3, 5, 6);
        has("n4;c2,3;", 1, 2, 4, 7, 8, 11, 13, 14);
        SelfChecks seven = Due.laid("n8;c2,7;");
        edges.same("seven zeros are 1", seven.rank(128) >= 0 ? 1 : 0, 1);
        edges.same("six zeros are 0", seven.rank(1), 0);
        SelfChecks six = Due.laid("n8;c2,6;");
        edges.same("six zeros of two bits are 10", six.rank(2 << 6) >= 0 ? 1 : 0, 1);
        edges.same("five zeros of two bits are 01", six.rank(1 << 6 | 1) >= 0 ? 1 : 0, 1);
        // No bit: modulo 1 all is 0, so each word is one.
        has("n2;c2,2;", 0, 1, 2, 3);
    }

    private void pairs() {
        edges.sentence("3 PAIRS (N even; NUMBER 0):");
        for (int n = 1; n <= 8; n++) {
            numbers(n, 3, n % 2 == 0 ? 0 : -1);
        }
        edges.sentence("INPUTS 0 and 1 are unlike, 2 and 3, and so on.");
        has("n2;c3,0;", 1, 2);
        has("n4;c3,0;", 5, 6, 9, 10);
        has("n6;c3,0;", 21, 22, 25, 26, 37, 38, 41, 42);
        SelfChecks x = Due.laid("n8;c3,0;");
        edges.same("words of four pairs", x.word(-1), 16);
        edges.same("the lowest", x.rank(0x55), 0);
        edges.same("the highest", x.rank(0xAA), 15);
        edges.same("the last pair 10", x.rank(0x95), 8);
        edges.same("the last pair 00", x.rank(0x15), NONE);
        edges.same("the last pair 11", x.rank(0xD5), NONE);
        edges.same("the first pair 00", x.rank(0x54), NONE);
        edges.same("the first pair 11", x.rank(0x57), NONE);
    }

    private void missedOf(String text, int want) {
        edges.same("missed of " + text, Due.laid(text).missed(), want);
    }

    private void errors() {
        edges.sentence("An ERROR ALL ONE WAY makes of a WORD of the CODE another WORD:");
        // A word alone: that nothing changes is no error.
        missedOf("n1;c1,0;", 0);
        missedOf("n8;c1,8;", 0);
        missedOf("n8;c2,0;", 0);
        edges.sentence("one or more INPUTS that are 0 are 1, no other changes,");
        // 0 to 1, and 1 to 0.
        missedOf("n1;", 2);
        // 0 to 1, 2 and 3, 1 to 3, 2 to 3, and back; 1 to 2 would go both ways at once.
        missedOf("n2;", 10);
        edges.sentence("or one or more that are 1 are 0.");
        // 0 3 5 6: two inputs at once, three times up and three times down.
        missedOf("n3;c2,2;", 6);
        edges.sentence("It is MISSED, if that is a WORD of the CODE, too.");
        for (int ones = 0; ones <= 8; ones++) {
            missedOf("n8;c1," + ones + ";", 0);
        }
        missedOf("n8;c3,0;", 0);
        missedOf("n2;c3,0;", 0);
        // All of N inputs: 3 to the N pairs of which one is part of the other or the same.
        missedOf("n8;c0,0;", 2 * (6561 - 256));
        missedOf("n8;c2,8;", 2 * (6561 - 256));
        // Counts that have room for all zeros miss none. With a zero more they wrap around, and
        // word 0 is one of the code then, part of each of the 15 others.
        missedOf("n5;c2,3;", 0);
        missedOf("n6;c2,4;", 30);
    }

    private void nearOf(String text, int want) {
        edges.same("near of " + text, Due.laid(text).near(), want);
    }

    private void nearTerm() {
        edges.sentence("NEAR: the fewest INPUTS in which two unlike WORDS of the CODE are unlike.");
        nearOf("n1;", 1);
        nearOf("n8;", 1);
        nearOf("n2;c1,1;", 2);
        nearOf("n8;c1,1;", 2);
        nearOf("n8;c1,4;", 2);
        nearOf("n2;c3,0;", 2);
        nearOf("n8;c3,0;", 2);
        nearOf("n2;c2,1;", 2);
        // 1 and 2 alone.
        nearOf("n8;c2,1;", 2);
        nearOf("n8;c2,8;", 1);
    }

    private void word() {
        edges.sentence("WORDS of the CODE: how many (i = -1),");
        edges.same("of the fewest", Due.laid("n8;c1,0;").word(-1), 1);
        edges.same("of the most", Due.laid("n8;").word(-1), 256);
        edges.same("of four", new SelfChecks().word(-1), 4);
        edges.sentence("the i-th, the lowest first.");
        int[] want = {5, 6, 9, 10};
        for (int i = 0; i < 4; i++) {
            edges.same("word(" + i + ")", new SelfChecks().word(i), want[i]);
        }
        for (int i = 0; i < 256; i++) {
            edges.same("word(" + i + ") of all", Made.sized(8, 0).word(i), i);
        }
        edges.sentence("BAD (i below -1);");
        edges.refused("word(-2)", x -> x.word(-2), BAD);
        edges.refused("word(MIN)", x -> x.word(Edges.MIN), BAD);
        edges.sentence("NONE: not so many.");
        edges.refused("one too many", x -> x.word(x.word(-1)), NONE);
        edges.refused("word(MAX)", x -> x.word(Edges.MAX), NONE);
        edges.refused("word(256)", x -> x.word(256), NONE);
        edges.same("the only one", Due.laid("n1;c1,1;").word(0), 1);
        edges.same("behind the only one", Due.laid("n1;c1,1;").word(1), NONE);
    }

    private void rank() {
        edges.sentence("Which number a WORD has among those of the CODE, 0 the lowest.");
        edges.same("the lowest", new SelfChecks().rank(5), 0);
        edges.same("the next", new SelfChecks().rank(6), 1);
        edges.same("the highest", new SelfChecks().rank(10), 3);
        edges.same("the only one", Due.laid("n8;c1,8;").rank(255), 0);
        for (int word = 0; word < 256; word++) {
            edges.same("rank(" + word + ") of all", Made.sized(8, 0).rank(word), word);
        }
        edges.sentence("BAD;");
        edges.refused("rank(-1)", x -> x.rank(-1), BAD);
        edges.refused("one word too high", x -> x.rank(Made.words(x)), BAD);
        for (int far : FAR) {
            edges.refused("rank(" + far + ")", x -> x.rank(far), BAD);
        }
        edges.sentence("NONE: it is none of these.");
        edges.refused("new", SelfChecks::new, "the lowest of all words", x -> x.rank(0), NONE);
        edges.refused("new", SelfChecks::new, "the highest of all words", x -> x.rank(15), NONE);
        edges.refused("new", SelfChecks::new, "one below the lowest", x -> x.rank(4), NONE);
        edges.refused("new", SelfChecks::new, "one above the highest", x -> x.rank(11), NONE);
        edges.refused("busy", Made::busy, "one that counts wrong", x -> x.rank(0), NONE);
        for (int word = 0; word < 255; word++) {
            edges.same("rank(" + word + ")", Due.laid("n8;c1,8;").rank(word), NONE);
        }
    }

    private void missed() {
        edges.sentence("How many ERRORS ALL ONE WAY are MISSED (each WORD with each that comes of it"
                + " counts).");
        edges.same("of a word alone", Due.laid("n1;c1,1;").missed(), 0);
        edges.same("of two words, there and back", Made.least().missed(), 2);
        edges.same("of the most", Made.full().missed(), 12610);
        edges.same("of codes of pairs", new SelfChecks().missed(), 0);
        edges.changesNothing("busy", Made::busy, "missed", SelfChecks::missed);
        SelfChecks x = new SelfChecks();
        x.missed();
        x.code(0, 0);
        edges.same("behind another code", x.missed(), 130);
        x.undo();
        edges.same("behind undo", x.missed(), 0);
    }

    private void near() {
        edges.sentence("NEAR.");
        edges.same("of two words", Due.laid("n2;c1,1;").near(), 2);
        edges.same("of two words that are one apart", Made.least().near(), 1);
        edges.same("of pairs", new SelfChecks().near(), 2);
        SelfChecks x = new SelfChecks();
        x.near();
        x.code(0, 0);
        edges.same("behind another code", x.near(), 1);
        x.undo();
        edges.same("behind undo", x.near(), 2);
        edges.sentence("NONE: there are not two WORDS.");
        for (int n = 1; n <= 8; n++) {
            for (String code : new String[] {"c1,0;", "c1," + n + ";", "c2,0;"}) {
                String text = "n" + n + ";" + code;
                edges.refused(text, () -> Due.laid(text), "near of one word", SelfChecks::near, NONE);
            }
            edges.holds("two words are near", Due.laid("n" + n + ";c2,1;").near() > 0);
        }
    }
}

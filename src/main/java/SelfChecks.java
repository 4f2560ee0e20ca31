/**
 * Logic that checks itself: a circuit of gates with two rails that have to be unlike, the code of
 * the words that come to its inputs, and what wires that are stuck do to the rails.
 *
 * <p>No call makes an object: every row is made in the constructor and used again.
 */
public final class SelfChecks {
    public static final int BAD = -1, NO = -2, FULL = -3, NONE = -4;

    private static final int MOST_INPUTS = 8;
    private static final int MOST_GATES = 24;
    private static final int MOST_WIRES = MOST_INPUTS + MOST_GATES;
    private static final int MOST_STUCKS = 2 * MOST_WIRES;
    private static final int MOST_WORDS = 1 << MOST_INPUTS;
    private static final int MOST_LETTERS = 200;
    private static final int MOST_UNDOS = 6;
    private static final int MOST_PAIRS = 4;

    private static final int FIRST_LETTER = 32;
    private static final int LAST_LETTER = 126;

    private static final int AND = 0;
    private static final int OR = 1;
    private static final int UNLIKE = 2;
    private static final int NOT_AND = 3;
    private static final int NOT_OR = 4;
    private static final int ALIKE = 5;

    private static final int ALL = 0;
    private static final int ONES = 1;
    private static final int ZEROS = 2;
    private static final int PAIRS = 3;

    private static final int NO_STUCK = -1;
    private static final int HOW_MANY = -1;

    private final Text text;
    private final Circuit circuit;
    private final Circuit draft;
    private final History history;
    private final CodeWords codeWords;
    private final Lanes lanes;
    private final Survey survey;

    public SelfChecks() {
        text = new Text();
        circuit = new Circuit();
        draft = new Circuit();
        history = new History();
        codeWords = new CodeWords();
        lanes = new Lanes();
        survey = new Survey();
        // The circuit that the document tells of at first is the one built for two pairs.
        circuit.becomeTree(2);
    }

    // ---- told

    public int write(int letter) {
        if (letter < FIRST_LETTER || letter > LAST_LETTER) {
            return BAD;
        }
        if (text.length >= MOST_LETTERS) {
            return FULL;
        }
        text.letters[text.length] = (char) letter;
        text.length++;
        return text.length;
    }

    public int wipe() {
        int was = text.length;
        text.length = 0;
        return was;
    }

    public int fault() {
        return text.readInto(draft);
    }

    public int lay() {
        if (text.readInto(draft) != NONE || draft.inputs == 0) {
            return NO;
        }
        circuit.copyFrom(draft);
        history.kept = 0;
        dropWhatWasWorkedOut();
        return circuit.wires();
    }

    // ---- told anew

    public int gate(int g, int k, int a, int b) {
        if (!circuit.hasGate(g) || !circuit.canHaveGate(g, k, a, b)) {
            return BAD;
        }
        int was = circuit.kinds[g];
        if (was == k && circuit.firsts[g] == a && circuit.seconds[g] == b) {
            return NO;
        }
        beginChange();
        circuit.setGate(g, k, a, b);
        return was;
    }

    public int add(int k, int a, int b) {
        int g = circuit.gates;
        if (!circuit.canHaveGate(g, k, a, b)) {
            return BAD;
        }
        if (g >= MOST_GATES) {
            return FULL;
        }
        beginChange();
        circuit.appendGate(k, a, b);
        return g;
    }

    public int rails(int p, int q) {
        if (!circuit.hasWire(p) || !circuit.hasWire(q)) {
            return BAD;
        }
        if (circuit.railP == p && circuit.railQ == q) {
            return NO;
        }
        int was = 100 * circuit.railP + circuit.railQ;
        beginChange();
        circuit.setRails(p, q);
        return was;
    }

    public int code(int k, int number) {
        if (!circuit.canHaveCode(k, number)) {
            return BAD;
        }
        if (circuit.codeKind == k && circuit.codeNumber == number) {
            return NO;
        }
        beginChange();
        circuit.setCode(k, number);
        return freshCodeWords().size;
    }

    public int build(int m) {
        if (m < 1 || m > MOST_PAIRS) {
            return BAD;
        }
        beginChange();
        circuit.becomeTree(m);
        return circuit.gates;
    }

    public int undo() {
        if (history.kept == 0) {
            return NO;
        }
        history.bringBack(circuit);
        dropWhatWasWorkedOut();
        return history.kept;
    }

    // ---- wires

    public int gateOf(int g, int what) {
        if (!circuit.hasGate(g)) {
            return BAD;
        }
        switch (what) {
            case 0:
                return circuit.kinds[g];
            case 1:
                return circuit.firsts[g];
            case 2:
                return circuit.seconds[g];
            case 3:
                return circuit.gatesThatRead(circuit.inputs + g);
            default:
                return BAD;
        }
    }

    public int wire(int word, int w) {
        if (!circuit.hasWord(word) || !circuit.hasWire(w)) {
            return BAD;
        }
        lanes.settle(circuit, word, NO_STUCK);
        return lanes.valueAt(w, Lanes.laneWithout(word));
    }

    public int out(int word, int s) {
        if (!circuit.hasWord(word) || s != NO_STUCK && !circuit.hasStuck(s)) {
            return BAD;
        }
        lanes.settle(circuit, word, NO_STUCK);
        return lanes.outAt(circuit, s == NO_STUCK ? Lanes.laneWithout(word) : s);
    }

    // ---- the code

    public int word(int i) {
        if (i < HOW_MANY) {
            return BAD;
        }
        CodeWords code = freshCodeWords();
        if (i == HOW_MANY) {
            return code.size;
        }
        return i < code.size ? code.words[i] : NONE;
    }

    public int rank(int word) {
        if (!circuit.hasWord(word)) {
            return BAD;
        }
        return freshCodeWords().ranks[word];
    }

    public int missed() {
        return comparedCodeWords().missedErrors;
    }

    public int near() {
        return comparedCodeWords().nearest;
    }

    // ---- stucks

    public int stuck(int s, int what) {
        if (!circuit.hasStuck(s) || what < 0 || what > 4) {
            return BAD;
        }
        Survey found = freshSurvey();
        switch (what) {
            case 0:
                return codeWords.howManyHave(found.exposed, s);
            case 1:
                return codeWords.howManyHave(found.passing, s);
            case 2:
                return codeWords.lowestThatHas(found.exposed, s);
            case 3:
                return codeWords.lowestThatHas(found.passing, s);
            default:
                return bit(found.latent(), s);
        }
    }

    public int exposes(int word) {
        if (!circuit.hasWord(word) || !circuit.isInCode(word)) {
            return BAD;
        }
        return Long.bitCount(freshSurvey().exposed[word]);
    }

    public int is(int what) {
        switch (what) {
            case 0:
                return freshSurvey().disjoint ? 1 : 0;
            case 1:
                return freshSurvey().neverExposed() == 0 ? 1 : 0;
            case 2:
                return freshSurvey().everPassing == 0 ? 1 : 0;
            default:
                return BAD;
        }
    }

    public int stucks(int what) {
        switch (what) {
            case 0:
                return Long.bitCount(freshSurvey().neverExposed());
            case 1:
                return Long.bitCount(freshSurvey().latent());
            case 2:
                return Long.bitCount(freshSurvey().everPassing);
            case 3:
                return lowestBit(freshSurvey().neverExposed());
            case 4:
                return lowestBit(freshSurvey().latent());
            case 5:
                return lowestBit(freshSurvey().everPassing);
            default:
                return BAD;
        }
    }

    public int test(int i) {
        if (i < HOW_MANY) {
            return BAD;
        }
        Survey found = freshSurvey();
        if (!found.testsChosen) {
            found.chooseTests(codeWords);
        }
        if (i == HOW_MANY) {
            return found.testCount;
        }
        return i < found.testCount ? found.tests[i] : NONE;
    }

    public int both(int s, int t, int what) {
        if (!circuit.hasStuck(s) || !circuit.hasStuck(t) || s >> 1 == t >> 1) {
            return BAD;
        }
        switch (what) {
            case 0:
                return notValidWithBoth(s, t);
            case 1:
                return passingWithBoth(s, t);
            default:
                return BAD;
        }
    }

    public int count(int what) {
        switch (what) {
            case 0:
                return circuit.inputs;
            case 1:
                return circuit.gates;
            case 2:
                return circuit.railP;
            case 3:
                return circuit.railQ;
            case 4:
                return circuit.codeKind;
            case 5:
                return circuit.codeNumber;
            case 6:
                return freshSurvey().validWords;
            case 7:
                return history.kept;
            case 8:
                return text.length;
            default:
                return BAD;
        }
    }

    // ---- inside

    private void beginChange() {
        history.keep(circuit);
        dropWhatWasWorkedOut();
    }

    private void dropWhatWasWorkedOut() {
        codeWords.isFresh = false;
        survey.isFresh = false;
    }

    private CodeWords freshCodeWords() {
        if (!codeWords.isFresh) {
            codeWords.list(circuit);
        }
        return codeWords;
    }

    private CodeWords comparedCodeWords() {
        CodeWords code = freshCodeWords();
        if (!code.isCompared) {
            code.compare();
        }
        return code;
    }

    private Survey freshSurvey() {
        CodeWords code = freshCodeWords();
        if (!survey.isFresh) {
            survey.make(circuit, code, lanes);
        }
        return survey;
    }

    private int notValidWithBoth(int s, int t) {
        CodeWords code = freshCodeWords();
        int found = 0;
        for (int i = 0; i < code.size; i++) {
            if (!isValid(outWithBoth(code.words[i], s, t))) {
                found++;
            }
        }
        return found;
    }

    private int passingWithBoth(int s, int t) {
        int[] outs = freshSurvey().outs;
        int found = 0;
        for (int i = 0; i < codeWords.size; i++) {
            int word = codeWords.words[i];
            int out = outWithBoth(word, s, t);
            if (isValid(out) && out != outs[word]) {
                found++;
            }
        }
        return found;
    }

    private int outWithBoth(int word, int s, int t) {
        lanes.settle(circuit, word, t);
        return lanes.outAt(circuit, s);
    }

    private static boolean isValid(int out) {
        return out == 1 || out == 2;
    }

    private static int bit(long bits, int at) {
        return (int) ((bits >>> at) & 1L);
    }

    private static int lowestBit(long bits) {
        for (int at = 0; at < MOST_STUCKS; at++) {
            if (bit(bits, at) == 1) {
                return at;
            }
        }
        return NONE;
    }

    /** All that is told of a circuit; no inputs yet while a text has not told of them. */
    private static final class Circuit {
        final int[] kinds = new int[MOST_GATES];
        final int[] firsts = new int[MOST_GATES];
        final int[] seconds = new int[MOST_GATES];
        int inputs;
        int gates;
        int railP;
        int railQ;
        int codeKind;
        int codeNumber;

        int wires() {
            return inputs + gates;
        }

        int wordCount() {
            return 1 << inputs;
        }

        boolean hasGate(int g) {
            return g >= 0 && g < gates;
        }

        boolean hasWire(int w) {
            return w >= 0 && w < wires();
        }

        boolean hasStuck(int s) {
            return s >= 0 && s < 2 * wires();
        }

        boolean hasWord(int word) {
            return word >= 0 && word < wordCount();
        }

        /** Whether gate g, one that is there or the next one, can be of this kind and these wires. */
        boolean canHaveGate(int g, int kind, int a, int b) {
            int ahead = inputs + g;
            return kind >= AND && kind <= ALIKE && a >= 0 && a < ahead && b >= 0 && b < ahead;
        }

        boolean canHaveCode(int kind, int number) {
            switch (kind) {
                case ALL:
                    return number == 0;
                case ONES:
                case ZEROS:
                    return number >= 0 && number <= inputs;
                case PAIRS:
                    return number == 0 && inputs % 2 == 0;
                default:
                    return false;
            }
        }

        void start(int inputCount) {
            inputs = inputCount;
            gates = 0;
            setRails(0, 0);
            setCode(ALL, 0);
        }

        void setGate(int g, int kind, int a, int b) {
            kinds[g] = kind;
            firsts[g] = a;
            seconds[g] = b;
        }

        void appendGate(int kind, int a, int b) {
            setGate(gates, kind, a, b);
            gates++;
        }

        void setRails(int p, int q) {
            railP = p;
            railQ = q;
        }

        void setCode(int kind, int number) {
            codeKind = kind;
            codeNumber = number;
        }

        void becomeTree(int pairs) {
            start(2 * pairs);
            setCode(PAIRS, 0);
            int first = 0;
            int second = 1;
            for (int pair = 1; pair < pairs; pair++) {
                int a = 2 * pair;
                int b = a + 1;
                int third = appendCross(first, a, second, b);
                int sixth = appendCross(first, b, second, a);
                first = third;
                second = sixth;
            }
            setRails(first, second);
        }

        /** Appends (a AND b) OR (c AND d) and answers its wire. */
        private int appendCross(int a, int b, int c, int d) {
            int w = wires();
            appendGate(AND, a, b);
            appendGate(AND, c, d);
            appendGate(OR, w, w + 1);
            return w + 2;
        }

        void copyFrom(Circuit other) {
            System.arraycopy(other.kinds, 0, kinds, 0, MOST_GATES);
            System.arraycopy(other.firsts, 0, firsts, 0, MOST_GATES);
            System.arraycopy(other.seconds, 0, seconds, 0, MOST_GATES);
            inputs = other.inputs;
            gates = other.gates;
            setRails(other.railP, other.railQ);
            setCode(other.codeKind, other.codeNumber);
        }

        int gatesThatRead(int w) {
            int found = 0;
            for (int g = 0; g < gates; g++) {
                if (firsts[g] == w || seconds[g] == w) {
                    found++;
                }
            }
            return found;
        }

        boolean isInCode(int word) {
            switch (codeKind) {
                case ONES:
                    return Integer.bitCount(word) == codeNumber;
                case ZEROS:
                    return tellsItsZeros(word);
                case PAIRS:
                    return hasUnlikePairs(word);
                default:
                    return true;
            }
        }

        private boolean tellsItsZeros(int word) {
            int tells = word & lowBits(codeNumber);
            int zeros = codeNumber - Integer.bitCount(tells);
            return word >> codeNumber == (zeros & lowBits(inputs - codeNumber));
        }

        private boolean hasUnlikePairs(int word) {
            int firstOfEach = 0x55 & lowBits(inputs);
            return ((word ^ (word >> 1)) & firstOfEach) == firstOfEach;
        }

        private static int lowBits(int howMany) {
            return (1 << howMany) - 1;
        }
    }

    /** The circuits that the latest changes changed, the oldest first. */
    private static final class History {
        private final Circuit[] past = new Circuit[MOST_UNDOS];
        int kept;

        History() {
            for (int i = 0; i < MOST_UNDOS; i++) {
                past[i] = new Circuit();
            }
        }

        void keep(Circuit circuit) {
            if (kept >= MOST_UNDOS) {
                dropOldest();
            }
            past[kept].copyFrom(circuit);
            kept++;
        }

        void bringBack(Circuit circuit) {
            kept--;
            circuit.copyFrom(past[kept]);
        }

        /** The oldest one goes to the end, so that its rows are used again. */
        private void dropOldest() {
            Circuit oldest = past[0];
            for (int i = 1; i < MOST_UNDOS; i++) {
                past[i - 1] = past[i];
            }
            past[MOST_UNDOS - 1] = oldest;
            kept = MOST_UNDOS - 1;
        }
    }

    /** The letters of the text, and how they are read as a circuit. */
    private static final class Text {
        private static final int NO_NUMBER = -1;

        final char[] letters = new char[MOST_LETTERS];
        private final int[] numbers = new int[3];
        int length;
        private int place;

        /** Answers where the first item stands that is not so, or NONE. */
        int readInto(Circuit told) {
            told.start(0);
            place = 0;
            for (int items = 0; items < MOST_LETTERS && place < length; items++) {
                int start = place;
                if (!readItem(told)) {
                    return start;
                }
            }
            return NONE;
        }

        private boolean readItem(Circuit told) {
            char head = letters[place];
            place++;
            int howMany = numbersBehind(head);
            return howMany > 0 && readNumbers(howMany) && tellItem(told, head);
        }

        private static int numbersBehind(char head) {
            if (head == 'n') {
                return 1;
            }
            if (head == 'o' || head == 'c') {
                return 2;
            }
            return head == 'g' ? 3 : 0;
        }

        private boolean readNumbers(int howMany) {
            for (int i = 0; i < howMany; i++) {
                numbers[i] = readNumber();
                char behind = i + 1 < howMany ? ',' : ';';
                if (numbers[i] == NO_NUMBER || !readSign(behind)) {
                    return false;
                }
            }
            return true;
        }

        private int readNumber() {
            int first = readFigure();
            if (first == NO_NUMBER) {
                return NO_NUMBER;
            }
            int second = readFigure();
            return second == NO_NUMBER ? first : 10 * first + second;
        }

        private int readFigure() {
            if (place >= length || letters[place] < '0' || letters[place] > '9') {
                return NO_NUMBER;
            }
            int figure = letters[place] - '0';
            place++;
            return figure;
        }

        private boolean readSign(char sign) {
            if (place >= length || letters[place] != sign) {
                return false;
            }
            place++;
            return true;
        }

        private boolean tellItem(Circuit told, char head) {
            if (head == 'n') {
                return tellInputs(told);
            }
            if (told.inputs == 0) {
                return false;
            }
            if (head == 'g') {
                return tellGate(told);
            }
            return head == 'o' ? tellRails(told) : tellCode(told);
        }

        private boolean tellInputs(Circuit told) {
            int inputs = numbers[0];
            if (told.inputs != 0 || inputs < 1 || inputs > MOST_INPUTS) {
                return false;
            }
            told.start(inputs);
            return true;
        }

        private boolean tellGate(Circuit told) {
            if (told.gates >= MOST_GATES
                    || !told.canHaveGate(told.gates, numbers[0], numbers[1], numbers[2])) {
                return false;
            }
            told.appendGate(numbers[0], numbers[1], numbers[2]);
            return true;
        }

        private boolean tellRails(Circuit told) {
            if (!told.hasWire(numbers[0]) || !told.hasWire(numbers[1])) {
                return false;
            }
            told.setRails(numbers[0], numbers[1]);
            return true;
        }

        private boolean tellCode(Circuit told) {
            if (!told.canHaveCode(numbers[0], numbers[1])) {
                return false;
            }
            told.setCode(numbers[0], numbers[1]);
            return true;
        }
    }

    /** The words of the code, the lowest first, and what comes of comparing them. */
    private static final class CodeWords {
        final int[] words = new int[MOST_WORDS];
        final int[] ranks = new int[MOST_WORDS];
        int size;
        int missedErrors;
        int nearest;
        boolean isFresh;
        boolean isCompared;

        void list(Circuit circuit) {
            size = 0;
            for (int word = 0; word < circuit.wordCount(); word++) {
                ranks[word] = NONE;
                if (circuit.isInCode(word)) {
                    ranks[word] = size;
                    words[size] = word;
                    size++;
                }
            }
            isFresh = true;
            isCompared = false;
        }

        void compare() {
            missedErrors = 0;
            nearest = NONE;
            for (int high = 1; high < size; high++) {
                for (int low = 0; low < high; low++) {
                    compareTwo(words[low], words[high]);
                }
            }
            isCompared = true;
        }

        /** The lower word can be part of the higher one only: two errors, up and down. */
        private void compareTwo(int lower, int higher) {
            if ((lower & higher) == lower) {
                missedErrors += 2;
            }
            int distance = Integer.bitCount(lower ^ higher);
            if (nearest == NONE || distance < nearest) {
                nearest = distance;
            }
        }

        int howManyHave(long[] stucksByWord, int s) {
            int found = 0;
            for (int i = 0; i < size; i++) {
                found += bit(stucksByWord[words[i]], s);
            }
            return found;
        }

        int lowestThatHas(long[] stucksByWord, int s) {
            for (int i = 0; i < size; i++) {
                if (bit(stucksByWord[words[i]], s) == 1) {
                    return words[i];
                }
            }
            return NONE;
        }
    }

    /** The values of all wires by one word, with each stuck at once: bit s is the value with stuck s. */
    private static final class Lanes {
        final long[] values = new long[MOST_WIRES];

        /** The stuck t, if there is one, is in all lanes beside the lane's own. */
        void settle(Circuit circuit, int word, int t) {
            for (int w = 0; w < circuit.wires(); w++) {
                long comes = w < circuit.inputs
                        ? inAllLanes((word >> w) & 1)
                        : gateValue(circuit, w - circuit.inputs);
                values[w] = t >> 1 == w ? inAllLanes(t & 1) : withOwnStucks(comes, w);
            }
        }

        private static long withOwnStucks(long comes, int w) {
            long stuckAt0 = 1L << 2 * w;
            long stuckAt1 = 2L << 2 * w;
            return (comes & ~stuckAt0) | stuckAt1;
        }

        private long gateValue(Circuit circuit, int g) {
            long a = values[circuit.firsts[g]];
            long b = values[circuit.seconds[g]];
            switch (circuit.kinds[g]) {
                case AND:
                    return a & b;
                case OR:
                    return a | b;
                case UNLIKE:
                    return a ^ b;
                case NOT_AND:
                    return ~(a & b);
                case NOT_OR:
                    return ~(a | b);
                default:
                    return ~(a ^ b);
            }
        }

        /** Input 0 stuck at the value that it has anyway changes nothing. */
        static int laneWithout(int word) {
            return word & 1;
        }

        static long inAllLanes(int value) {
            return -(long) value;
        }

        int valueAt(int w, int lane) {
            return bit(values[w], lane);
        }

        int outAt(Circuit circuit, int lane) {
            return 2 * valueAt(circuit.railP, lane) + valueAt(circuit.railQ, lane);
        }
    }

    /** What all stucks do by all words of the code; a row of stucks is a long with bit s for stuck s. */
    private static final class Survey {
        final int[] outs = new int[MOST_WORDS];
        final long[] exposed = new long[MOST_WORDS];
        final long[] passing = new long[MOST_WORDS];
        final int[] tests = new int[MOST_STUCKS];
        int testCount;
        int validWords;
        long allStucks;
        long everExposed;
        long everPassing;
        long everChanged;
        boolean disjoint;
        boolean testsChosen;
        boolean isFresh;

        void make(Circuit circuit, CodeWords code, Lanes lanes) {
            clear(circuit);
            for (int word = 0; word < circuit.wordCount(); word++) {
                lanes.settle(circuit, word, NO_STUCK);
                int out = lanes.outAt(circuit, Lanes.laneWithout(word));
                boolean inCode = code.ranks[word] != NONE;
                outs[word] = out;
                if (isValid(out)) {
                    validWords++;
                }
                if (isValid(out) != inCode) {
                    disjoint = false;
                }
                if (inCode) {
                    lookAtStucks(word, lanes.values[circuit.railP], lanes.values[circuit.railQ]);
                }
            }
            isFresh = true;
        }

        private void clear(Circuit circuit) {
            // Shifted from the other end, since 1L << 64 would be 1 where all 64 stucks are there.
            allStucks = -1L >>> (MOST_STUCKS - 2 * circuit.wires());
            validWords = 0;
            disjoint = true;
            everExposed = 0;
            everPassing = 0;
            everChanged = 0;
            testsChosen = false;
        }

        private void lookAtStucks(int word, long p, long q) {
            long plainP = Lanes.inAllLanes(outs[word] >> 1);
            long plainQ = Lanes.inAllLanes(outs[word] & 1);
            long changed = ((p ^ plainP) | (q ^ plainQ)) & allStucks;
            exposed[word] = ~(p ^ q) & allStucks;
            passing[word] = (p ^ q) & changed;
            everExposed |= exposed[word];
            everPassing |= passing[word];
            everChanged |= changed;
        }

        long neverExposed() {
            return allStucks & ~everExposed;
        }

        long latent() {
            return allStucks & ~everChanged;
        }

        void chooseTests(CodeWords code) {
            testCount = 0;
            long open = everExposed;
            // Each test exposes one stuck more at least, so there are no more tests than stucks.
            for (int i = 0; i < MOST_STUCKS && open != 0; i++) {
                int word = wordThatExposesMost(code, open);
                tests[i] = word;
                testCount++;
                open &= ~exposed[word];
            }
            testsChosen = true;
        }

        private int wordThatExposesMost(CodeWords code, long open) {
            int best = 0;
            int most = 0;
            for (int i = 0; i < code.size; i++) {
                int word = code.words[i];
                int found = Long.bitCount(exposed[word] & open);
                if (found > most) {
                    most = found;
                    best = word;
                }
            }
            return best;
        }
    }
}

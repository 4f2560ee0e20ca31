import java.util.ArrayList;
import java.util.HashSet;
import java.util.List;
import java.util.Set;
import java.util.regex.Matcher;
import java.util.regex.Pattern;

/** The document once more, as plainly as can be: one word, one stuck, one wire at a time. */
final class PlainModel {
    private static final int BAD = -1, NO = -2, FULL = -3, NONE = -4;
    private static final Pattern ITEM = Pattern.compile(
            "n(\\d\\d?);|g(\\d\\d?),(\\d\\d?),(\\d\\d?);|o(\\d\\d?),(\\d\\d?);|c(\\d\\d?),(\\d\\d?);");

    private record Gate(int kind, int a, int b) { }

    private record Told(int n, List<Gate> gates, int p, int q, int codeKind, int codeNumber) {
        int wires() {
            return n + gates.size();
        }
    }

    private String text = "";
    private Told now;
    private final List<Told> past = new ArrayList<>();

    PlainModel() {
        now = (Told) read("n4;g0,0,2;g0,1,3;g1,4,5;g0,0,3;g0,1,2;g1,7,8;o6,9;c3,0;")[1];
    }

    /** The fault, or NONE, and what is told. */
    private static Object[] read(String text) {
        Told told = null;
        Matcher item = ITEM.matcher(text);
        int at = 0;
        while (at < text.length()) {
            item.region(at, text.length());
            if (!item.lookingAt()) {
                return new Object[] {at, null};
            }
            told = withItem(told, item);
            if (told == null) {
                return new Object[] {at, null};
            }
            at = item.end();
        }
        return new Object[] {NONE, told};
    }

    private static int number(Matcher item, int group) {
        return Integer.parseInt(item.group(group));
    }

    private static Told withItem(Told told, Matcher item) {
        if (item.group(1) != null) {
            int n = number(item, 1);
            return told == null && n >= 1 && n <= 8 ? new Told(n, List.of(), 0, 0, 0, 0) : null;
        }
        if (told == null) {
            return null;
        }
        if (item.group(2) != null) {
            Gate gate = new Gate(number(item, 2), number(item, 3), number(item, 4));
            return told.gates.size() < 24 && can(gate, told.wires()) ? withGate(told, gate) : null;
        }
        if (item.group(5) != null) {
            int p = number(item, 5);
            int q = number(item, 6);
            return p < told.wires() && q < told.wires()
                    ? new Told(told.n, told.gates, p, q, told.codeKind, told.codeNumber) : null;
        }
        int kind = number(item, 7);
        int w = number(item, 8);
        return canCode(told.n, kind, w)
                ? new Told(told.n, told.gates, told.p, told.q, kind, w) : null;
    }

    private static boolean can(Gate gate, int ahead) {
        return gate.kind >= 0 && gate.kind < 6 && gate.a >= 0 && gate.a < ahead
                && gate.b >= 0 && gate.b < ahead;
    }

    private static boolean canCode(int n, int kind, int number) {
        boolean upToN = number >= 0 && number <= n;
        return kind == 0 && number == 0 || (kind == 1 || kind == 2) && upToN
                || kind == 3 && number == 0 && n % 2 == 0;
    }

    private static Told withGate(Told told, Gate gate) {
        List<Gate> gates = new ArrayList<>(told.gates);
        gates.add(gate);
        return new Told(told.n, gates, told.p, told.q, told.codeKind, told.codeNumber);
    }

    private void change(Told to) {
        past.add(now);
        if (past.size() > 6) {
            past.remove(0);
        }
        now = to;
    }

    private boolean isWord(int word) {
        return word >= 0 && word < Math.pow(2, now.n);
    }

    private boolean isWire(int w) {
        return w >= 0 && w < now.wires();
    }

    private boolean isStuck(int s) {
        return s >= 0 && s < now.wires() * 2L;
    }

    private boolean[] values(int word, int... stucks) {
        boolean[] value = new boolean[now.wires()];
        for (int w = 0; w < value.length; w++) {
            if (w < now.n) {
                value[w] = (word / (1 << w)) % 2 == 1;
            } else {
                Gate gate = now.gates.get(w - now.n);
                value[w] = gateValue(gate.kind, value[gate.a], value[gate.b]);
            }
            for (int s : stucks) {
                if (s >= 0 && s / 2 == w) {
                    value[w] = s % 2 == 1;
                }
            }
        }
        return value;
    }

    private static boolean gateValue(int kind, boolean a, boolean b) {
        int ones = (a ? 1 : 0) + (b ? 1 : 0);
        boolean plain = kind % 3 == 0 ? ones == 2 : kind % 3 == 1 ? ones > 0 : ones == 1;
        return kind < 3 ? plain : !plain;
    }

    private int outOf(int word, int... stucks) {
        boolean[] value = values(word, stucks);
        return (value[now.p] ? 2 : 0) + (value[now.q] ? 1 : 0);
    }

    private static boolean valid(int out) {
        return out == 1 || out == 2;
    }

    private boolean inCode(int word) {
        boolean[] in = new boolean[now.n];
        int ones = 0;
        for (int i = 0; i < now.n; i++) {
            in[i] = (word / (1 << i)) % 2 == 1;
            ones += in[i] ? 1 : 0;
        }
        if (now.codeKind == 1) {
            return ones == now.codeNumber;
        }
        if (now.codeKind == 2) {
            int zeros = 0;
            int told = 0;
            for (int i = 0; i < now.n; i++) {
                if (i < now.codeNumber) {
                    zeros += in[i] ? 0 : 1;
                } else {
                    told += in[i] ? 1 << (i - now.codeNumber) : 0;
                }
            }
            return told == zeros % (1 << (now.n - now.codeNumber));
        }
        if (now.codeKind == 3) {
            for (int i = 0; i < now.n; i += 2) {
                if (in[i] == in[i + 1]) {
                    return false;
                }
            }
        }
        return true;
    }

    private List<Integer> words() {
        List<Integer> all = new ArrayList<>();
        for (int word = 0; isWord(word); word++) {
            if (inCode(word)) {
                all.add(word);
            }
        }
        return all;
    }

    private boolean exposesIt(int word, int s) {
        return !valid(outOf(word, s));
    }

    private boolean passesBy(int word, int s) {
        return valid(outOf(word, s)) && outOf(word, s) != outOf(word);
    }

    private boolean isLatent(int s) {
        for (int word : words()) {
            if (outOf(word, s) != outOf(word)) {
                return false;
            }
        }
        return true;
    }

    int write(int letter) {
        if (letter < 32 || letter > 126) {
            return BAD;
        }
        if (text.length() == 200) {
            return FULL;
        }
        text += (char) letter;
        return text.length();
    }

    int wipe() {
        int was = text.length();
        text = "";
        return was;
    }

    int fault() {
        return (Integer) read(text)[0];
    }

    int lay() {
        Told told = (Told) read(text)[1];
        if (told == null) {
            return NO;
        }
        now = told;
        past.clear();
        return now.wires();
    }

    int gate(int g, int k, int a, int b) {
        Gate gate = new Gate(k, a, b);
        if (g < 0 || g >= now.gates.size() || !can(gate, now.n + g)) {
            return BAD;
        }
        Gate was = now.gates.get(g);
        if (was.equals(gate)) {
            return NO;
        }
        List<Gate> gates = new ArrayList<>(now.gates);
        gates.set(g, gate);
        change(new Told(now.n, gates, now.p, now.q, now.codeKind, now.codeNumber));
        return was.kind;
    }

    int add(int k, int a, int b) {
        Gate gate = new Gate(k, a, b);
        if (!can(gate, now.wires())) {
            return BAD;
        }
        if (now.gates.size() == 24) {
            return FULL;
        }
        change(withGate(now, gate));
        return now.gates.size() - 1;
    }

    int rails(int p, int q) {
        if (!isWire(p) || !isWire(q)) {
            return BAD;
        }
        if (p == now.p && q == now.q) {
            return NO;
        }
        int was = now.p * 100 + now.q;
        change(new Told(now.n, now.gates, p, q, now.codeKind, now.codeNumber));
        return was;
    }

    int code(int k, int number) {
        if (!canCode(now.n, k, number)) {
            return BAD;
        }
        if (k == now.codeKind && number == now.codeNumber) {
            return NO;
        }
        change(new Told(now.n, now.gates, now.p, now.q, k, number));
        return words().size();
    }

    int build(int m) {
        if (m < 1 || m > 4) {
            return BAD;
        }
        int n = 2 * m;
        List<Gate> gates = new ArrayList<>();
        int first = 0;
        int second = 1;
        for (int pair = 1; pair < m; pair++) {
            int own = n + gates.size();
            int a = 2 * pair;
            int b = 2 * pair + 1;
            gates.add(new Gate(0, first, a));
            gates.add(new Gate(0, second, b));
            gates.add(new Gate(1, own, own + 1));
            gates.add(new Gate(0, first, b));
            gates.add(new Gate(0, second, a));
            gates.add(new Gate(1, own + 3, own + 4));
            first = own + 2;
            second = own + 5;
        }
        change(new Told(n, gates, first, second, 3, 0));
        return gates.size();
    }

    int undo() {
        if (past.isEmpty()) {
            return NO;
        }
        now = past.remove(past.size() - 1);
        return past.size();
    }

    int gateOf(int g, int what) {
        if (g < 0 || g >= now.gates.size() || what < 0 || what > 3) {
            return BAD;
        }
        Gate gate = now.gates.get(g);
        int own = now.n + g;
        int readers = (int) now.gates.stream().filter(x -> x.a == own || x.b == own).count();
        return new int[] {gate.kind, gate.a, gate.b, readers}[what];
    }

    int wire(int word, int w) {
        return isWord(word) && isWire(w) ? (values(word)[w] ? 1 : 0) : BAD;
    }

    int out(int word, int s) {
        return isWord(word) && (s == -1 || isStuck(s)) ? outOf(word, s) : BAD;
    }

    private static int ofList(List<Integer> list, int i) {
        if (i < -1) {
            return BAD;
        }
        return i == -1 ? list.size() : i < list.size() ? list.get(i) : NONE;
    }

    int word(int i) {
        return ofList(words(), i);
    }

    int rank(int word) {
        if (!isWord(word)) {
            return BAD;
        }
        int at = words().indexOf(word);
        return at < 0 ? NONE : at;
    }

    int missed() {
        int found = 0;
        for (int from : words()) {
            for (int to : words()) {
                boolean up = (from | to) == to;
                boolean down = (from | to) == from;
                found += from != to && (up || down) ? 1 : 0;
            }
        }
        return found;
    }

    int near() {
        int best = NONE;
        for (int one : words()) {
            for (int other : words()) {
                int unlike = Integer.toBinaryString(one ^ other).replace("0", "").length();
                if (one != other && (best == NONE || unlike < best)) {
                    best = unlike;
                }
            }
        }
        return best;
    }

    int stuck(int s, int what) {
        if (!isStuck(s) || what < 0 || what > 4) {
            return BAD;
        }
        List<Integer> exposing = new ArrayList<>();
        List<Integer> passing = new ArrayList<>();
        for (int word : words()) {
            if (exposesIt(word, s)) {
                exposing.add(word);
            }
            if (passesBy(word, s)) {
                passing.add(word);
            }
        }
        return switch (what) {
            case 0 -> exposing.size();
            case 1 -> passing.size();
            case 2 -> ofList(exposing, 0);
            case 3 -> ofList(passing, 0);
            default -> isLatent(s) ? 1 : 0;
        };
    }

    private Set<Integer> exposedBy(int word) {
        Set<Integer> all = new HashSet<>();
        for (int s = 0; isStuck(s); s++) {
            if (exposesIt(word, s)) {
                all.add(s);
            }
        }
        return all;
    }

    int exposes(int word) {
        return isWord(word) && inCode(word) ? exposedBy(word).size() : BAD;
    }

    int is(int what) {
        if (what < 0 || what > 2) {
            return BAD;
        }
        if (what > 0) {
            return stucks(what == 1 ? 0 : 2) == 0 ? 1 : 0;
        }
        for (int word = 0; isWord(word); word++) {
            if (valid(outOf(word)) != inCode(word)) {
                return 0;
            }
        }
        return 1;
    }

    int stucks(int what) {
        if (what < 0 || what > 5) {
            return BAD;
        }
        List<Integer> all = new ArrayList<>();
        for (int s = 0; isStuck(s); s++) {
            int of = s;
            boolean is = switch (what % 3) {
                case 0 -> words().stream().noneMatch(word -> exposesIt(word, of));
                case 1 -> isLatent(s);
                default -> words().stream().anyMatch(word -> passesBy(word, of));
            };
            if (is) {
                all.add(s);
            }
        }
        return ofList(all, what < 3 ? -1 : 0);
    }

    int test(int i) {
        List<Set<Integer>> open = new ArrayList<>();
        for (int word : words()) {
            open.add(exposedBy(word));
        }
        List<Integer> tests = new ArrayList<>();
        while (true) {
            int best = 0;
            for (int at = 1; at < open.size(); at++) {
                best = open.get(at).size() > open.get(best).size() ? at : best;
            }
            if (open.get(best).isEmpty()) {
                return ofList(tests, i);
            }
            tests.add(words().get(best));
            Set<Integer> gone = new HashSet<>(open.get(best));
            open.forEach(set -> set.removeAll(gone));
        }
    }

    int both(int s, int t, int what) {
        if (!isStuck(s) || !isStuck(t) || s / 2 == t / 2 || what < 0 || what > 1) {
            return BAD;
        }
        int found = 0;
        for (int word : words()) {
            int out = outOf(word, s, t);
            boolean is = what == 0 ? !valid(out) : valid(out) && out != outOf(word);
            found += is ? 1 : 0;
        }
        return found;
    }

    int count(int what) {
        if (what < 0 || what > 8) {
            return BAD;
        }
        int validWords = 0;
        for (int word = 0; isWord(word); word++) {
            validWords += valid(outOf(word)) ? 1 : 0;
        }
        return new int[] {now.n, now.gates.size(), now.p, now.q, now.codeKind, now.codeNumber,
            validWords, past.size(), text.length()}[what];
    }
}

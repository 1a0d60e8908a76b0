import java.math.BigInteger;
import java.util.ArrayDeque;
import java.util.ArrayList;
import java.util.Arrays;
import java.util.HashMap;
import java.util.HashSet;
import java.util.List;
import java.util.Map;
import java.util.NoSuchElementException;
import java.util.Set;
import java.util.TreeMap;

/** The document said once more, by plain search and the Java library, to hold ThroneBacks' answers against. */
final class Model {
    static final class Fault extends Exception {
        private static final long serialVersionUID = 1;
        final int kind;
        final int place;

        Fault(int kind, int place) {
            this.kind = kind;
            this.place = place;
        }
    }

    interface Expression {
        int value(Map<String, Integer> of);
    }

    interface Step {
    }

    record Simple(String name, int one, int other) implements Step {
    }

    record Again(int times, List<Step> steps) implements Step {
    }

    record Token(char kind, String text, int place) {
    }

    /** A text cut into tokens: n a number, w a word, s a sign, e the end. */
    static final class Tokens {
        final List<Token> list = new ArrayList<>();
        int at;

        Tokens(byte[] bytes) {
            int i = 0;
            while (i < bytes.length) {
                int from = i;
                int b = bytes[i];
                if (b == ' ') {
                    i++;
                    continue;
                }
                boolean digit = Character.isDigit(b) && b > 0;
                boolean letter = b >= 'a' && b <= 'z';
                i++;
                while (i < bytes.length && (digit && bytes[i] >= '0' && bytes[i] <= '9'
                        || letter && bytes[i] >= 'a' && bytes[i] <= 'z')) {
                    i++;
                }
                StringBuilder text = new StringBuilder();
                for (int j = from; j < i; j++) {
                    text.append((char) (bytes[j] & 255));
                }
                list.add(new Token(digit ? 'n' : letter ? 'w' : 's', text.toString(), from));
            }
            list.add(new Token('e', "", bytes.length));
        }

        Token peek() {
            return list.get(at);
        }

        boolean isSign(String sign) {
            return peek().kind == 's' && peek().text.equals(sign);
        }

        void sign(String sign) throws Fault {
            if (!isSign(sign)) {
                throw new Fault(1, peek().place);
            }
            at++;
        }

        int number(int least, int most) throws Fault {
            Token token = peek();
            if (token.kind != 'n') {
                throw new Fault(1, token.place);
            }
            BigInteger value = new BigInteger(token.text);
            if (value.compareTo(BigInteger.valueOf(least)) < 0 || value.compareTo(BigInteger.valueOf(most)) > 0) {
                throw new Fault(2, token.place);
            }
            at++;
            return value.intValue();
        }

        Token word(String... allowed) throws Fault {
            Token token = peek();
            if (token.kind != 'w' || !Arrays.asList(allowed).contains(token.text)) {
                throw new Fault(1, token.place);
            }
            at++;
            return token;
        }
    }

    static final class State {
        int[] tired;
        boolean[] fell;
        int[][] borne;
        List<Map<Integer, Integer>> knows = new ArrayList<>();
        int held;
        int day;

        State(int backs, int councils) {
            tired = new int[backs];
            fell = new boolean[backs];
            borne = new int[backs][councils];
            for (int i = 0; i < backs; i++) {
                knows.add(new TreeMap<>());
            }
        }

        State copy() {
            State s = new State(0, 0);
            s.tired = tired.clone();
            s.fell = fell.clone();
            s.borne = new int[borne.length][];
            for (int i = 0; i < borne.length; i++) {
                s.borne[i] = borne[i].clone();
                s.knows.add(new TreeMap<>(knows.get(i)));
            }
            s.held = held;
            s.day = day;
            return s;
        }
    }

    record Image(State state, List<State> undo) {
    }

    private final List<Byte> tape = new ArrayList<>();
    private List<int[]> backs = new ArrayList<>();
    private List<int[]> councils = new ArrayList<>();
    private int weight = 20;
    private Expression law;
    private Map<Integer, Integer> book = new TreeMap<>();
    private State now = new State(0, 0);
    private List<State> undo = new ArrayList<>();
    private final List<Image> images = new ArrayList<>();
    private int fault = -1;
    private int refused;
    private int noElements;
    private int noArguments;
    private int begun;
    private int done;
    private int refusedNow;

    Model() {
        law = usual();
    }

    private static Expression usual() {
        return of -> of.get("weight") - of.get("held") + of.get("lie");
    }

    private void arguments(boolean ok) {
        if (!ok) {
            noArguments++;
            throw new IllegalArgumentException();
        }
    }

    private void elements(boolean ok) {
        if (!ok) {
            noElements++;
            throw new NoSuchElementException();
        }
    }

    private void isBack(int b) {
        elements(b >= 0 && b < backs.size());
    }

    private void isCouncil(int c) {
        elements(c >= 0 && c < councils.size());
    }

    public int feed(int a, int b, int c, int d, int e) {
        if (tape.size() > 580) {
            return -1;
        }
        for (int n : new int[] {a, b, c, d, e}) {
            for (byte x : java.nio.ByteBuffer.allocate(4).putInt(n).array()) {
                tape.add(x);
            }
        }
        return tape.size();
    }

    private byte[] take(int n, int most) {
        arguments(n >= 0 && n <= tape.size() && n <= most);
        byte[] bytes = new byte[n];
        for (int i = 0; i < n; i++) {
            bytes[i] = tape.get(i);
        }
        tape.clear();
        fault = -1;
        return bytes;
    }

    private int faulty(Fault f) {
        fault = f.place;
        return f.kind - 10;
    }

    public int court(int n) {
        Tokens t = new Tokens(take(n, 600));
        List<int[]> newBacks = new ArrayList<>();
        List<int[]> newCouncils = new ArrayList<>();
        int newWeight = 20;
        try {
            for (int clauses = 0; t.peek().kind != 'e'; clauses++) {
                Token w = t.word("back", "council", "king");
                if (clauses == 60 || w.text.equals("back") && newBacks.size() == 7
                        || w.text.equals("council") && newCouncils.size() == 12) {
                    throw new Fault(3, w.place);
                }
                if (w.text.equals("back")) {
                    newBacks.add(new int[] {t.number(1, 99), t.number(0, 9)});
                } else if (w.text.equals("council")) {
                    newCouncils.add(new int[] {t.number(1, 9), t.number(0, 9)});
                } else {
                    newWeight = t.number(1, 40);
                }
                t.sign(";");
            }
        } catch (Fault f) {
            return faulty(f);
        }
        backs = newBacks;
        councils = newCouncils;
        weight = newWeight;
        law = usual();
        book = new TreeMap<>();
        images.clear();
        undo.clear();
        refused = 0;
        now = new State(backs.size(), councils.size());
        return backs.size();
    }

    public int law(int n) {
        Tokens t = new Tokens(take(n, 150));
        try {
            Expression e = sum(t, 0);
            if (t.peek().kind != 'e') {
                throw new Fault(1, t.peek().place);
            }
            law = e;
        } catch (Fault f) {
            return faulty(f);
        }
        return 1;
    }

    private static Expression sum(Tokens t, int open) throws Fault {
        Expression left = product(t, open);
        while (t.isSign("+") || t.isSign("-")) {
            String sign = t.peek().text;
            t.at++;
            Expression a = left;
            Expression b = product(t, open);
            left = sign.equals("+") ? of -> a.value(of) + b.value(of) : of -> a.value(of) - b.value(of);
        }
        return left;
    }

    private static Expression product(Tokens t, int open) throws Fault {
        Expression left = unit(t, open);
        while (t.isSign("*") || t.isSign("/") || t.isSign("%")) {
            String sign = t.peek().text;
            t.at++;
            Expression a = left;
            Expression b = unit(t, open);
            left = of -> {
                long x = a.value(of);
                long y = b.value(of);
                if (sign.equals("*")) {
                    return (int) (x * y);
                }
                return y == 0 ? 0 : (int) (sign.equals("/") ? x / y : x % y);
            };
        }
        return left;
    }

    private static Expression unit(Tokens t, int open) throws Fault {
        if (t.peek().kind == 'n') {
            int value = t.number(0, 999);
            return of -> value;
        }
        if (t.isSign("(")) {
            if (open == 6) {
                throw new Fault(3, t.peek().place);
            }
            t.at++;
            Expression inner = sum(t, open + 1);
            t.sign(")");
            return inner;
        }
        Token w = t.word("weight", "held", "lie", "hours", "care", "tired", "knows", "day", "back", "least", "most");
        if (!w.text.equals("least") && !w.text.equals("most")) {
            return of -> of.get(w.text);
        }
        if (open == 6) {
            throw new Fault(3, w.place);
        }
        t.sign("[");
        Expression a = sum(t, open + 1);
        t.sign(",");
        Expression b = sum(t, open + 1);
        t.sign("]");
        return w.text.equals("least") ? of -> Math.min(a.value(of), b.value(of)) : of -> Math.max(a.value(of), b.value(of));
    }

    public int work(int n) {
        arguments(n >= 0 && n <= tape.size() && n <= 150);
        if (undo.size() == 16) {
            tape.clear();
            fault = -1;
            return -20;
        }
        Tokens t = new Tokens(take(n, 150));
        List<Step> steps;
        try {
            steps = steps(t, 0);
        } catch (Fault f) {
            return faulty(f);
        }
        undo.add(now.copy());
        begun = 0;
        done = 0;
        refusedNow = 0;
        carryOut(steps);
        refused = refusedNow;
        return done;
    }

    private List<Step> steps(Tokens t, int open) throws Fault {
        List<Step> list = new ArrayList<>();
        while (open == 0 ? t.peek().kind != 'e' : !t.isSign("]")) {
            Token w = t.word("sit", "tell", "hold", "rest", "day", "again");
            switch (w.text) {
                case "sit" -> list.add(new Simple("sit", t.number(0, backs.size() - 1), t.number(0, councils.size() - 1)));
                case "tell" -> list.add(new Simple("tell", t.number(0, backs.size() - 1), t.number(0, backs.size() - 1)));
                case "hold" -> list.add(new Simple("hold", t.number(0, 40), 0));
                case "rest" -> list.add(new Simple("rest", t.number(0, backs.size() - 1), 0));
                case "day" -> list.add(new Simple("day", 0, 0));
                default -> {
                    if (open == 6) {
                        throw new Fault(3, w.place);
                    }
                    int times = t.number(0, 40);
                    t.sign("[");
                    list.add(new Again(times, steps(t, open + 1)));
                    t.sign("]");
                }
            }
            t.sign(";");
        }
        return list;
    }

    private void carryOut(List<Step> steps) {
        for (Step step : steps) {
            if (begun == 200) {
                return;
            }
            begun++;
            if (step instanceof Again again) {
                for (int i = 0; i < again.times; i++) {
                    carryOut(again.steps);
                }
            } else if (step instanceof Simple s) {
                if (doStep(now, s, true)) {
                    done++;
                } else {
                    refusedNow++;
                }
            }
        }
    }

    private boolean doStep(State s, Simple step, boolean bounded) {
        int a = step.one;
        int b = step.other;
        switch (step.name) {
            case "sit":
                if (s.fell[a]) {
                    return false;
                }
                s.tired[a] += burden(s, a, b);
                s.borne[a][b]++;
                if (s.tired[a] > backs.get(a)[0]) {
                    s.fell[a] = true;
                } else if (backs.get(a)[1] + councils.get(b)[1] > 9) {
                    s.knows.get(a).put(b, 0);
                }
                return true;
            case "tell":
                if (a == b || s.fell[a] || s.fell[b] || s.knows.get(b).keySet().containsAll(s.knows.get(a).keySet())) {
                    return false;
                }
                for (Map.Entry<Integer, Integer> e : s.knows.get(a).entrySet()) {
                    s.knows.get(b).putIfAbsent(e.getKey(), Math.min(9, e.getValue() + 1));
                }
                return true;
            case "hold":
                if (s.held == a || a > weight) {
                    return false;
                }
                s.held = a;
                return true;
            case "rest":
                if (s.tired[a] == 0) {
                    return false;
                }
                s.tired[a] = s.tired[a] / 2;
                s.fell[a] = false;
                return true;
            default:
                if (bounded && s.day >= 400) {
                    return false;
                }
                for (int i = 0; i < s.tired.length; i++) {
                    s.tired[i] = Math.max(0, s.tired[i] - 5 - backs.get(i)[1]);
                }
                s.day++;
                return true;
        }
    }

    private int clamp(int value) {
        return Math.max(0, Math.min(60, value));
    }

    private int load(State s, int b, int c) {
        Map<String, Integer> of = new HashMap<>();
        of.put("weight", weight);
        of.put("held", s.held);
        of.put("lie", councils.get(c)[1]);
        of.put("hours", councils.get(c)[0]);
        of.put("care", backs.get(b)[1]);
        of.put("tired", s.tired[b]);
        of.put("knows", s.knows.get(b).size());
        of.put("day", s.day);
        of.put("back", b);
        return clamp(law.value(of));
    }

    private int burden(State s, int b, int c) {
        return load(s, b, c) * councils.get(c)[0] / 4;
    }

    public int book(int n) {
        Tokens t = new Tokens(take(n, 60));
        Map<Integer, Integer> lines = new TreeMap<>();
        try {
            while (t.peek().kind != 'e') {
                int place = t.peek().place;
                int b = t.number(0, backs.size() - 1);
                if (lines.containsKey(b)) {
                    throw new Fault(2, place);
                }
                lines.put(b, t.number(0, 999));
                t.sign(";");
            }
        } catch (Fault f) {
            return faulty(f);
        }
        book = lines;
        return lines.size();
    }

    public int fault() {
        return fault;
    }

    public int undo() {
        if (undo.isEmpty()) {
            return -1;
        }
        now = undo.remove(undo.size() - 1);
        refused = 0;
        return undo.size();
    }

    private int bits(int many, java.util.function.IntPredicate is) {
        int bits = 0;
        for (int i = 0; i < many; i++) {
            bits += is.test(i) ? 1 << i : 0;
        }
        return bits;
    }

    private int timesBorne(int c) {
        int sum = 0;
        for (int[] row : now.borne) {
            sum += row[c];
        }
        return sum;
    }

    private boolean anyKnows(State s, int c) {
        return s.knows.stream().anyMatch(k -> k.containsKey(c));
    }

    private boolean allStandingKnow(int c) {
        for (int b = 0; b < backs.size(); b++) {
            if (!now.fell[b] && !now.knows.get(b).containsKey(c)) {
                return false;
            }
        }
        return true;
    }

    public int told(int what) {
        arguments(what >= 0 && what <= 11);
        switch (what) {
            case 0: return backs.size();
            case 1: return councils.size();
            case 2: return weight;
            case 3: return now.day;
            case 4: return now.held;
            case 5: return bits(backs.size(), b -> now.fell[b]);
            case 6: return Arrays.stream(now.tired).sum();
            case 7: return Arrays.stream(now.borne).mapToInt(r -> Arrays.stream(r).sum()).sum();
            case 8: return bits(councils.size(), c -> anyKnows(now, c));
            case 9: return book.size();
            case 10: return refused;
            default: return bits(councils.size(), this::allStandingKnow);
        }
    }

    public int back(int back, int what) {
        isBack(back);
        arguments(what >= 0 && what <= 7);
        switch (what) {
            case 0: return backs.get(back)[0];
            case 1: return backs.get(back)[1];
            case 2: return now.tired[back];
            case 3: return now.fell[back] ? 1 : 0;
            case 4: return bits(councils.size(), now.knows.get(back)::containsKey);
            case 5: return Arrays.stream(now.borne[back]).sum();
            case 6: return bits(councils.size(), c -> now.borne[back][c] > 0);
            default: return backs.get(back)[0] - now.tired[back];
        }
    }

    public int council(int council, int what) {
        isCouncil(council);
        arguments(what >= 0 && what <= 4);
        switch (what) {
            case 0: return councils.get(council)[0];
            case 1: return councils.get(council)[1];
            case 2: return timesBorne(council);
            case 3: return bits(backs.size(), b -> now.knows.get(b).containsKey(council));
            default: return bits(backs.size(), b -> now.borne[b][council] > 0);
        }
    }

    public int hearing(int back, int council) {
        isBack(back);
        isCouncil(council);
        return now.knows.get(back).getOrDefault(council, -1);
    }

    public int load(int back, int council) {
        isBack(back);
        isCouncil(council);
        return load(now, back, council);
    }

    public int burden(int back, int council) {
        isBack(back);
        isCouncil(council);
        return burden(now, back, council);
    }

    public int would(int weight, int held, int lie, int hours, int care, int tired, int knows, int day, int back) {
        arguments(weight >= 1 && weight <= 40 && held >= 0 && held <= 40 && lie >= 0 && lie <= 9 && hours >= 1
            && hours <= 9 && care >= 0 && care <= 9 && tired >= 0 && tired <= 999 && knows >= 0 && knows <= 12
            && day >= 0 && day <= 400 && back >= 0 && back <= 6);
        Map<String, Integer> of = new HashMap<>();
        of.put("weight", weight);
        of.put("held", held);
        of.put("lie", lie);
        of.put("hours", hours);
        of.put("care", care);
        of.put("tired", tired);
        of.put("knows", knows);
        of.put("day", day);
        of.put("back", back);
        return clamp(law.value(of));
    }

    private State later(int days) {
        State s = now.copy();
        for (int i = 0; i < days; i++) {
            doStep(s, new Simple("day", 0, 0), false);
        }
        return s;
    }

    public int ahead(int n, int what) {
        arguments(n >= 0 && n <= 99 && what >= 0 && what <= 1);
        State s = later(n);
        return what == 0 ? Arrays.stream(s.tired).sum() : bits(backs.size(), b -> s.tired[b] == 0);
    }

    private boolean stays(State s, int b, int c) {
        if (s.fell[b]) {
            return false;
        }
        State t = s.copy();
        doStep(t, new Simple("sit", b, c), true);
        return !t.fell[b];
    }

    public int could(int back) {
        isBack(back);
        return bits(councils.size(), c -> stays(now, back, c));
    }

    private List<Integer> listOf(int bits) {
        List<Integer> list = new ArrayList<>();
        for (int i = 0; i < 32; i++) {
            if ((bits >>> i & 1) == 1) {
                list.add(i);
            }
        }
        return list;
    }

    /** All ways in order, none left out: the best way's backs, and its burdens behind them; null without. */
    private int[] bestWay(List<Integer> told) {
        int ways = (int) Math.round(Math.pow(backs.size(), told.size()));
        int[] best = null;
        int[][] weighs = new int[told.size()][backs.size()];
        for (int i = 0; i < told.size(); i++) {
            for (int b = 0; b < backs.size(); b++) {
                weighs[i][b] = burden(now, b, told.get(i));
            }
        }
        for (int way = 0; way < ways; way++) {
            int[] to = new int[told.size() + 1];
            int rest = way;
            for (int i = told.size() - 1; i >= 0; i--) {
                to[i] = rest % backs.size();
                rest /= backs.size();
            }
            int[] sum = now.tired.clone();
            int all = 0;
            boolean ok = true;
            for (int i = 0; i < told.size(); i++) {
                int b = weighs[i][to[i]];
                sum[to[i]] += b;
                all += b;
                ok &= !now.fell[to[i]];
            }
            for (int i = 0; i < told.size(); i++) {
                ok &= sum[to[i]] <= backs.get(to[i])[0];
            }
            to[told.size()] = all;
            if (ok && (best == null || all < best[told.size()])) {
                best = to;
            }
        }
        return best;
    }

    private void rosterBits(int bits) {
        arguments(listOf(bits).stream().allMatch(c -> c < councils.size()) && listOf(bits).size() <= 6);
    }

    public int roster(int councils) {
        rosterBits(councils);
        int[] best = bestWay(listOf(councils));
        return best == null ? -1 : best[best.length - 1];
    }

    public int gives(int council, int councils) {
        isCouncil(council);
        rosterBits(councils);
        int[] best = bestWay(listOf(councils));
        int at = listOf(councils).indexOf(council);
        return best == null || at < 0 ? -1 : best[at];
    }

    /** By breadth over sets of backs that know it. */
    public int word(int council) {
        isCouncil(council);
        int standing = bits(backs.size(), b -> !now.fell[b]);
        int start = bits(backs.size(), b -> !now.fell[b] && now.knows.get(b).containsKey(council));
        Set<Integer> seen = new HashSet<>();
        ArrayDeque<int[]> queue = new ArrayDeque<>();
        queue.add(new int[] {start, 0});
        while (!queue.isEmpty()) {
            int[] head = queue.remove();
            if (head[0] == standing) {
                return head[1];
            }
            for (int a : listOf(head[0])) {
                for (int b : listOf(standing & ~head[0])) {
                    if (seen.add(head[0] | 1 << b)) {
                        queue.add(new int[] {head[0] | 1 << b, head[1] + 1});
                    }
                }
            }
        }
        return -1;
    }

    /** Lowers the highest seats by one as long as it can. */
    public int ease(int councils, int n) {
        arguments(listOf(councils).stream().allMatch(c -> c < this.councils.size()) && n >= 0 && n <= 9999);
        int[] held = new int[12];
        int left = n;
        while (true) {
            int top = 0;
            for (int c : listOf(councils)) {
                top = Math.max(top, weight + this.councils.get(c)[1] - held[c]);
            }
            for (int c : listOf(councils)) {
                if (weight + this.councils.get(c)[1] - held[c] == top) {
                    held[c]++;
                    left -= this.councils.get(c)[0];
                    if (held[c] > weight || left < 0) {
                        return top;
                    }
                }
            }
            if (listOf(councils).isEmpty()) {
                return 0;
            }
        }
    }

    private List<int[]> pairs(Map<Integer, Integer> lines) {
        List<int[]> list = new ArrayList<>();
        for (int b = 0; b < backs.size(); b++) {
            for (int c = 0; c < councils.size(); c++) {
                State s = now.copy();
                doStep(s, new Simple("sit", b, c), true);
                if (lines.entrySet().stream().allMatch(e -> s.tired[e.getKey()] == e.getValue())) {
                    list.add(new int[] {b, c});
                }
            }
        }
        return list;
    }

    public int fits(int what) {
        arguments(what == 0 || what == 1);
        List<int[]> list = pairs(book);
        return what == 0 ? list.size() : list.isEmpty() ? -1 : 100 * list.get(0)[0] + list.get(0)[1];
    }

    public int look(int what) {
        arguments(what == 0 || what == 1);
        int found = -1;
        int fewest = -1;
        List<int[]> fitting = pairs(book);
        for (int b = 0; b < backs.size(); b++) {
            if (book.containsKey(b)) {
                continue;
            }
            Map<Integer, Integer> tally = new HashMap<>();
            for (int[] pair : fitting) {
                State s = now.copy();
                doStep(s, new Simple("sit", pair[0], pair[1]), true);
                tally.merge(s.tired[b], 1, Integer::sum);
            }
            int worst = tally.values().stream().mapToInt(v -> v).max().orElse(0);
            if (found < 0 || worst < fewest) {
                found = b;
                fewest = worst;
            }
        }
        return what == 0 ? found : fewest;
    }

    private int strength(int set) {
        return listOf(set).stream().mapToInt(b -> backs.get(b)[0]).sum();
    }

    public int quorum(int q, int what) {
        arguments(q >= 1 && q <= 693 && what >= 0 && what <= 1);
        int found = 0;
        for (int set = 0; set < 1 << backs.size(); set++) {
            int members = set;
            if (listOf(set).stream().anyMatch(b -> now.fell[b]) || strength(set) < q) {
                continue;
            }
            boolean lean = listOf(set).stream().noneMatch(b -> strength(members & ~(1 << b)) >= q);
            found += what == 0 || lean ? 1 : 0;
        }
        return found;
    }

    /** Council by council, the chances of each number of lies so far, over powers of 16. */
    public long lies(int n, int k, int q, int half) {
        arguments(n >= 0 && n <= 12 && k >= 0 && k <= 13 && q >= 0 && q <= 16 && half >= 0 && half <= 1);
        BigInteger[] chance = new BigInteger[14];
        Arrays.fill(chance, BigInteger.ZERO);
        chance[0] = BigInteger.ONE;
        for (int i = 0; i < n; i++) {
            for (int j = 13; j >= 0; j--) {
                BigInteger not = chance[j].multiply(BigInteger.valueOf(16 - q));
                chance[j] = j == 0 ? not : not.add(chance[j - 1].multiply(BigInteger.valueOf(q)));
            }
        }
        BigInteger above = BigInteger.ZERO;
        for (int j = k; j <= 13; j++) {
            above = above.add(chance[j]);
        }
        BigInteger below = BigInteger.valueOf(16).pow(n);
        BigInteger common = above.gcd(below);
        return (half == 0 ? above : below).divide(common).longValueExact();
    }

    public int kneel(int v, int w, int what) {
        arguments(v >= 0 && v <= 99 && w >= 0 && w <= 99 && what >= 0 && what <= 2);
        int[][] own = {{0, v}, {-w, 0}};
        List<int[]> rests = new ArrayList<>();
        for (int a = 0; a < 2; a++) {
            for (int b = 0; b < 2; b++) {
                if (own[1 - a][b] <= own[a][b] && own[1 - b][a] <= own[b][a]) {
                    rests.add(new int[] {a, b});
                }
            }
        }
        if (what == 0) {
            return rests.size();
        }
        if (rests.isEmpty()) {
            return what == 1 ? -1 : 0;
        }
        int[] r = rests.get(0);
        return what == 1 ? 10 * r[0] + r[1] : own[r[0]][r[1]] + own[r[1]][r[0]];
    }

    /** One round after the other: each who can takes one more, as long as the whole round can be given. */
    public int balm(int back, int backs, int n) {
        isBack(back);
        arguments(listOf(backs).stream().allMatch(b -> b < this.backs.size()) && n >= 0 && n <= 9999);
        int[] got = new int[7];
        int left = n;
        while (true) {
            List<Integer> takers = listOf(backs);
            takers.removeIf(b -> got[b] >= now.tired[b]);
            if (takers.isEmpty() || takers.size() > left) {
                return got[back];
            }
            for (int b : takers) {
                got[b]++;
                left--;
            }
        }
    }

    public int weariest(int what) {
        arguments(what == 0 || what == 1);
        int most = Arrays.stream(now.tired).max().orElse(-1);
        for (int b = 0; b < backs.size(); b++) {
            if (now.tired[b] == most) {
                return what == 0 ? b : most;
            }
        }
        return -1;
    }

    public int heaviest(int back, int what) {
        isBack(back);
        arguments(what == 0 || what == 1);
        int[] found = {-1, -1};
        for (int c = councils.size() - 1; c >= 0; c--) {
            int b = burden(now, back, c);
            if (b >= found[1]) {
                found = new int[] {c, b};
            }
        }
        return found[what];
    }

    public int listeners(int back) {
        isBack(back);
        return bits(backs.size(), b -> doStep(now.copy(), new Simple("tell", back, b), true));
    }

    public int ready(int back, int council) {
        isBack(back);
        isCouncil(council);
        for (int n = 0; n < 100; n++) {
            if (stays(later(n), back, council)) {
                return n;
            }
        }
        return -1;
    }

    public int sure(int back, int what) {
        isBack(back);
        arguments(what == 0 || what == 1);
        Map<Integer, Integer> k = now.knows.get(back);
        return bits(councils.size(), c -> k.containsKey(c) && (k.get(c) == 0) == (what == 0));
    }

    public int bearers(int council) {
        isCouncil(council);
        return bits(backs.size(), b -> stays(now, b, council));
    }

    public int rumour(int council, int what) {
        isCouncil(council);
        arguments(what == 0 || what == 1);
        int[] found = {-1, -1};
        for (int b = backs.size() - 1; b >= 0; b--) {
            int h = now.knows.get(b).getOrDefault(council, -1);
            if (h >= 0 && h >= found[1]) {
                found = new int[] {b, h};
            }
        }
        return found[what];
    }

    public int lied(int n, int what) {
        arguments(n >= 0 && n <= 9 && what >= 0 && what <= 1);
        return bits(councils.size(), c -> councils.get(c)[1] >= n && (timesBorne(c) > 0) == (what == 0));
    }

    private long seed;

    private int draw(int by) {
        seed = (seed * 1103515245L + 12345L) & 0xffffffffL;
        return (int) (seed / 65536 % 32768 % by);
    }

    /** The state behind a reign; how often councils were borne stands in born[0]. */
    private State reigned(int from, int q, int days, int[] born) {
        seed = from & 0xffffffffL;
        State s = now.copy();
        for (int d = 0; d < days; d++) {
            for (int time = 0; time < 2; time++) {
                if (backs.isEmpty() || councils.isEmpty()) {
                    continue;
                }
                int b = draw(backs.size());
                int c = draw(councils.size());
                if (doStep(s, new Simple("sit", b, c), true)) {
                    born[0]++;
                } else {
                    doStep(s, new Simple("rest", b, 0), true);
                }
                if (draw(16) < q) {
                    int teller = draw(backs.size());
                    int other = draw(backs.size());
                    doStep(s, new Simple("tell", teller, other), true);
                }
            }
            doStep(s, new Simple("day", 0, 0), false);
        }
        return s;
    }

    public int reign(int seed, int q, int days, int what) {
        arguments(q >= 0 && q <= 16 && days >= 1 && days <= 48 && what >= 0 && what <= 3);
        int[] born = {0};
        State s = reigned(seed, q, days, born);
        switch (what) {
            case 0: return born[0];
            case 1: return bits(backs.size(), b -> s.fell[b]);
            case 2: return Arrays.stream(s.tired).sum();
            default: return bits(councils.size(), c -> anyKnows(s, c));
        }
    }

    public int span(int seed, int many, int q, int days, int what, int back) {
        arguments(many >= 1 && many <= 10 && q >= 0 && q <= 16 && days >= 1 && days <= 48 && what >= 0 && what <= 2
            && back >= 0 && back < backs.size());
        int[] borns = new int[many];
        int lying = 0;
        for (int i = 0; i < many; i++) {
            int[] born = {0};
            lying += reigned(seed + i, q, days, born).fell[back] ? 1 : 0;
            borns[i] = born[0];
        }
        Arrays.sort(borns);
        return what == 0 ? borns[0] : what == 1 ? borns[many - 1] : lying;
    }

    private static List<State> copies(List<State> list) {
        List<State> copy = new ArrayList<>();
        for (State s : list) {
            copy.add(s.copy());
        }
        return copy;
    }

    public int image() {
        if (images.size() == 3) {
            return -1;
        }
        images.add(new Image(now.copy(), copies(undo)));
        return images.size();
    }

    public int restore() {
        if (images.isEmpty()) {
            return -1;
        }
        Image image = images.remove(images.size() - 1);
        now = image.state;
        undo = image.undo;
        refused = 0;
        return images.size();
    }

    public int status(int what) {
        return what == 0 ? noElements : what == 1 ? noArguments : -1;
    }

    public int count(int what) {
        return what == 0 ? images.size() : what == 1 ? tape.size() : what == 2 ? undo.size() : -1;
    }
}

import java.util.ArrayDeque;
import java.util.ArrayList;
import java.util.Arrays;
import java.util.Deque;
import java.util.HashMap;
import java.util.LinkedHashMap;
import java.util.LinkedHashSet;
import java.util.List;
import java.util.Map;
import java.util.NoSuchElementException;
import java.util.Set;
import java.util.TreeSet;

/** The document told once more, as plainly as can be and with no thought of speed: MEADOWS are strings. */
final class Model {
    static final int NONE = -1;

    interface Part {
        int of(int rule, int place, int size, int behind, int year);
    }

    interface Condition {
        boolean holds(int rule, int place, int size, int behind, int year);
    }

    static final class Wrong extends RuntimeException {
        final int at;

        Wrong(int at) {
            this.at = at;
        }
    }

    static final class Field {
        String beasts = "";
        int steps;
        List<int[]> makers = new ArrayList<>();

        Field(String beasts) {
            this.beasts = beasts;
            for (int i = 0; i < beasts.length(); i++) {
                makers.add(new int[] {NONE, NONE});
            }
        }

        Field(Field other) {
            beasts = other.beasts;
            steps = other.steps;
            makers.addAll(other.makers);
        }
    }

    static final class State {
        List<String[]> rules = new ArrayList<>();
        List<Field> fields = new ArrayList<>();
        List<String[]> seen = new ArrayList<>();
        int[] weights = {1, 1, 1, 1, 1, 1, 1, 1};
        int texts;
        String way = "left";
        int fog;
        int year;
        int seed = 1;
        List<Condition> law;

        State copy() {
            State c = new State();
            c.rules.addAll(rules);
            for (Field f : fields) {
                c.fields.add(new Field(f));
            }
            c.seen.addAll(seen);
            c.weights = weights.clone();
            c.texts = texts;
            c.way = way;
            c.fog = fog;
            c.year = year;
            c.seed = seed;
            c.law = law;
            return c;
        }
    }

    State s = new State();
    State image;
    Deque<State> acts = new ArrayDeque<>();
    StringBuilder tape = new StringBuilder();
    int fault = NONE;

    // ---- TAPE, texts

    int feed(int... numbers) {
        if (tape.length() + 20 > 400) {
            return NONE;
        }
        for (int n : numbers) {
            tape.append((char) (n >>> 24)).append((char) (n >> 16 & 255)).append((char) (n >> 8 & 255)).append((char) (n & 255));
        }
        return tape.length();
    }

    boolean end(int n) {
        if (n < 0 || n > tape.length()) {
            return false;
        }
        tape.setLength(n);
        return true;
    }

    private String useTape() {
        String text = tape.toString();
        tape.setLength(0);
        fault = NONE;
        return text;
    }

    int valley() {
        String text = useTape();
        State draft = s.copy();
        try {
            new Reader(text).valley(draft);
        } catch (Wrong wrong) {
            fault = wrong.at;
            throw new IllegalArgumentException();
        }
        if (s.texts == 10) {
            throw new UnsupportedOperationException();
        }
        draft.texts++;
        s = draft;
        acts.clear();
        return s.texts;
    }

    int law() {
        String text = useTape();
        List<Condition> lines;
        try {
            lines = new Reader(text).law();
        } catch (Wrong wrong) {
            fault = wrong.at;
            throw new IllegalArgumentException();
        }
        s.law = lines;
        acts.clear();
        return lines.size();
    }

    int fault() {
        return fault;
    }

    static final class Reader {
        final List<String> things = new ArrayList<>();
        final List<Integer> begins = new ArrayList<>();
        final int length;
        int at;

        Reader(String text) {
            length = text.length();
            int i = 0;
            while (i < length) {
                int from = i;
                char c = text.charAt(i);
                if (c == ' ') {
                    i++;
                    continue;
                }
                if (c >= 'a' && c <= 'z') {
                    while (i < length && text.charAt(i) >= 'a' && text.charAt(i) <= 'z') {
                        i++;
                    }
                } else if (c >= '0' && c <= '9') {
                    while (i < length && text.charAt(i) >= '0' && text.charAt(i) <= '9') {
                        i++;
                    }
                } else {
                    i++;
                }
                things.add(text.substring(from, i));
                begins.add(from);
            }
        }

        String peek() {
            return at < things.size() ? things.get(at) : "";
        }

        Wrong wrong() {
            return new Wrong(at < things.size() ? begins.get(at) : length);
        }

        boolean next(String thing) {
            if (peek().equals(thing)) {
                at++;
                return true;
            }
            return false;
        }

        void must(String thing) {
            if (!next(thing)) {
                throw wrong();
            }
        }

        void check(boolean right) {
            if (!right) {
                throw wrong();
            }
        }

        String beasts(int least, int most) {
            String thing = peek();
            if (thing.equals(".")) {
                check(least == 0);
                at++;
                return "";
            }
            check(thing.matches("[a-h]{1,20}") && thing.length() <= most);
            at++;
            return thing;
        }

        int number(int most) {
            check(peek().matches("[0-9]{1,3}") && Integer.parseInt(peek()) <= most);
            return Integer.parseInt(things.get(at++));
        }

        void valley(State d) {
            if (things.isEmpty()) {
                return;
            }
            int lines = 0;
            do {
                check(lines < 14);
                lines++;
                valleyLine(d);
            } while (next(";"));
            check(at == things.size());
        }

        void valleyLine(State d) {
            switch (peek()) {
                case "rule": {
                    check(d.rules.size() < 12);
                    at++;
                    String left = beasts(1, 4);
                    must("to");
                    d.rules.add(new String[] {left, beasts(0, 5)});
                    break;
                }
                case "field":
                    check(d.fields.size() < 6);
                    at++;
                    d.fields.add(new Field(beasts(0, 20)));
                    break;
                case "seen": {
                    check(d.seen.size() < 10);
                    at++;
                    String first = beasts(0, 20);
                    must("to");
                    d.seen.add(new String[] {first, beasts(0, 20)});
                    break;
                }
                case "first":
                    at++;
                    check(List.of("left", "right", "rule", "all").contains(peek()));
                    d.way = things.get(at++);
                    break;
                case "fog":
                    at++;
                    d.fog = number(100);
                    break;
                case "weight": {
                    at++;
                    check(peek().matches("[a-h]"));
                    int beast = things.get(at++).charAt(0) - 'a';
                    d.weights[beast] = number(99);
                    break;
                }
                case "drop":
                    at++;
                    d.rules.remove(number(d.rules.size() - 1));
                    break;
                default:
                    throw wrong();
            }
        }

        List<Condition> law() {
            List<Condition> lines = new ArrayList<>();
            if (things.isEmpty()) {
                return lines;
            }
            do {
                check(lines.size() < 12);
                must("bar");
                lines.add(next("if") ? any(0) : (r, p, n, b, y) -> true);
            } while (next(";"));
            check(at == things.size());
            return lines;
        }

        Condition any(int deep) {
            Condition c = each(deep);
            while (next("or")) {
                Condition one = c;
                Condition other = each(deep);
                c = (r, p, n, b, y) -> one.holds(r, p, n, b, y) || other.holds(r, p, n, b, y);
            }
            return c;
        }

        Condition each(int deep) {
            Condition c = atom(deep);
            while (next("and")) {
                Condition one = c;
                Condition other = atom(deep);
                c = (r, p, n, b, y) -> one.holds(r, p, n, b, y) && other.holds(r, p, n, b, y);
            }
            return c;
        }

        Condition atom(int deep) {
            if (peek().equals("not") || peek().equals("(")) {
                check(deep < 6);
                if (next("not")) {
                    Condition c = atom(deep + 1);
                    return (r, p, n, b, y) -> !c.holds(r, p, n, b, y);
                }
                must("(");
                Condition c = any(deep + 1);
                must(")");
                return c;
            }
            if (next("end")) {
                return (r, p, n, b, y) -> p == 0 || b == 0;
            }
            Part one = sum();
            boolean less = peek().equals("<");
            check(less || peek().equals(">"));
            at++;
            Part other = sum();
            return (r, p, n, b, y) -> less ? one.of(r, p, n, b, y) < other.of(r, p, n, b, y)
                    : one.of(r, p, n, b, y) > other.of(r, p, n, b, y);
        }

        Part sum() {
            Part sum = part();
            while (next("+")) {
                Part one = sum;
                Part other = part();
                sum = (r, p, n, b, y) -> one.of(r, p, n, b, y) + other.of(r, p, n, b, y);
            }
            return sum;
        }

        Part part() {
            if (next("rule")) {
                return (r, p, n, b, y) -> r;
            }
            if (next("place")) {
                return (r, p, n, b, y) -> p;
            }
            if (next("long")) {
                return (r, p, n, b, y) -> n;
            }
            if (next("behind")) {
                return (r, p, n, b, y) -> b;
            }
            if (next("year")) {
                return (r, p, n, b, y) -> y;
            }
            int told = number(999);
            return (r, p, n, b, y) -> told;
        }
    }

    // ---- checks

    static String meadow(long code) {
        if (code < 1) {
            throw new IllegalArgumentException();
        }
        String figures = Long.toBinaryString(code);
        if (figures.length() % 3 != 1 || figures.length() > 61) {
            throw new IllegalArgumentException();
        }
        StringBuilder beasts = new StringBuilder();
        for (int i = 1; i < figures.length(); i += 3) {
            beasts.append((char) ('a' + Integer.parseInt(figures.substring(i, i + 3), 2)));
        }
        return beasts.toString();
    }

    static long code(String beasts) {
        return beasts == null ? NONE : Kit.code(beasts);
    }

    static void index(int i, int size) {
        if (i < 0 || i >= size) {
            throw new IndexOutOfBoundsException();
        }
    }

    static void number(int n, int least, int most) {
        if (n < least || n > most) {
            throw new IllegalArgumentException();
        }
    }

    static void what(int what, int many) {
        if (what < 0 || what >= many) {
            throw new NoSuchElementException();
        }
    }

    // ---- simple answers

    long rule(int rule, boolean right) {
        index(rule, s.rules.size());
        return code(s.rules.get(rule)[right ? 1 : 0]);
    }

    long field(int field) {
        index(field, s.fields.size());
        return code(s.fields.get(field).beasts);
    }

    long seen(int seen, boolean became) {
        index(seen, s.seen.size());
        return code(s.seen.get(seen)[became ? 1 : 0]);
    }

    int beast(long code, int k) {
        String m = meadow(code);
        return k < 0 || k >= m.length() ? NONE : m.charAt(k) - 'a';
    }

    int steps(int field) {
        index(field, s.fields.size());
        return s.fields.get(field).steps;
    }

    int maker(int field, int place, int what) {
        index(field, s.fields.size());
        index(place, s.fields.get(field).beasts.length());
        what(what, 2);
        return s.fields.get(field).makers.get(place)[what];
    }

    // ---- RULES that fit, STEPS

    boolean fitsAt(String m, int rule, int place, boolean lawful) {
        if (place < 0 || place >= m.length()) {
            return false;
        }
        String left = s.rules.get(rule)[0];
        if (!m.startsWith(left, place) || after(m, rule, place).length() > 20) {
            return false;
        }
        int behind = m.length() - place - left.length();
        if (lawful && s.law != null) {
            for (Condition bar : s.law) {
                if (bar.holds(rule, place, m.length(), behind, s.year)) {
                    return false;
                }
            }
        }
        return true;
    }

    String after(String m, int rule, int place) {
        String[] r = s.rules.get(rule);
        return m.substring(0, place) + r[1] + m.substring(place + r[0].length());
    }

    /** The uses of the next STEP, as {place, rule}. */
    List<int[]> uses(String m, String way, boolean lawful, int without) {
        List<int[]> fit = new ArrayList<>();
        for (int place = 0; place < m.length(); place++) {
            for (int rule = 0; rule < s.rules.size(); rule++) {
                if ((without >> rule & 1) == 0 && fitsAt(m, rule, place, lawful)) {
                    fit.add(new int[] {place, rule});
                }
            }
        }
        if (way.equals("any") || fit.isEmpty()) {
            return fit;
        }
        if (way.equals("all")) {
            List<int[]> uses = new ArrayList<>();
            int behind = 0;
            int size = m.length();
            for (int[] f : fit) {
                if (f[0] >= behind) {
                    uses.add(f);
                    behind = f[0] + s.rules.get(f[1])[0].length();
                    size += s.rules.get(f[1])[1].length() - s.rules.get(f[1])[0].length();
                }
            }
            return size > 20 ? new ArrayList<>() : uses;
        }
        int[] first = fit.get(0);
        for (int[] f : fit) {
            boolean sooner = way.equals("right") ? f[0] > first[0]
                    : way.equals("rule") ? f[1] < first[1] : f[0] < first[0];
            if (sooner) {
                first = f;
            }
        }
        return new ArrayList<>(List.of(first));
    }

    String apply(String m, List<int[]> uses) {
        StringBuilder then = new StringBuilder();
        int place = 0;
        for (int[] u : uses) {
            then.append(m, place, u[0]).append(s.rules.get(u[1])[1]);
            place = u[0] + s.rules.get(u[1])[0].length();
        }
        return then.append(m.substring(place)).toString();
    }

    String next(String m) {
        List<int[]> uses = uses(m, s.way, true, 0);
        return uses.isEmpty() ? null : apply(m, uses);
    }

    /** {steps, meadow}, or null. */
    Object[] settling(String m, int n, String way, boolean lawful, int without) {
        String here = m;
        for (int step = 0; step <= n; step++) {
            List<int[]> uses = uses(here, way, lawful, without);
            if (uses.isEmpty()) {
                return new Object[] {step, here};
            }
            here = apply(here, uses);
        }
        return null;
    }

    String settled(String m, int n) {
        Object[] end = settling(m, n, s.way, true, 0);
        return end == null ? null : (String) end[1];
    }

    void change(Field f, List<int[]> uses) {
        f.steps++;
        List<int[]> makers = new ArrayList<>();
        int place = 0;
        for (int[] u : uses) {
            makers.addAll(f.makers.subList(place, u[0]));
            for (int i = 0; i < s.rules.get(u[1])[1].length(); i++) {
                makers.add(new int[] {u[1], f.steps});
            }
            place = u[0] + s.rules.get(u[1])[0].length();
        }
        makers.addAll(f.makers.subList(place, f.beasts.length()));
        f.beasts = apply(f.beasts, uses);
        f.makers = makers;
    }

    boolean fits(long code, int rule, int place) {
        index(rule, s.rules.size());
        return fitsAt(meadow(code), rule, place, true);
    }

    // ---- acts

    void act() {
        acts.addLast(s.copy());
        if (acts.size() > 16) {
            acts.removeFirst();
        }
    }

    long use(int field, int rule, int place) {
        index(field, s.fields.size());
        index(rule, s.rules.size());
        if (!fitsAt(s.fields.get(field).beasts, rule, place, true)) {
            throw new IllegalStateException();
        }
        act();
        change(s.fields.get(field), List.of(new int[] {place, rule}));
        return field(field);
    }

    int run(int field, int n) {
        index(field, s.fields.size());
        number(n, 1, 200);
        act();
        for (int gone = 0; gone < n; gone++) {
            List<int[]> uses = uses(s.fields.get(field).beasts, s.way, true, 0);
            if (uses.isEmpty()) {
                return gone;
            }
            change(s.fields.get(field), uses);
        }
        return n;
    }

    long put(int field, long code) {
        index(field, s.fields.size());
        String m = meadow(code);
        act();
        long before = field(field);
        s.fields.set(field, new Field(m));
        return before;
    }

    int add(long left, long right) {
        String l = meadow(left);
        String r = meadow(right);
        if (l.isEmpty() || l.length() > 4 || r.length() > 5) {
            throw new IllegalArgumentException();
        }
        if (s.rules.size() == 12) {
            throw new UnsupportedOperationException();
        }
        act();
        s.rules.add(new String[] {l, r});
        return s.rules.size() - 1;
    }

    int drop(int rule) {
        index(rule, s.rules.size());
        act();
        s.rules.remove(rule);
        return s.rules.size();
    }

    int draw() {
        s.seed = (int) (1103515245L * s.seed + 12345L);
        return s.seed >> 16 & 32767;
    }

    int years(int field, int n) {
        index(field, s.fields.size());
        number(n, 1, 200);
        act();
        int used = 0;
        for (int i = 0; i < n; i++) {
            if (draw() % 100 >= s.fog) {
                List<int[]> fit = uses(s.fields.get(field).beasts, "any", true, 0);
                if (!fit.isEmpty()) {
                    change(s.fields.get(field), List.of(fit.get(draw() % fit.size())));
                    used++;
                }
            }
            s.year++;
        }
        return used;
    }

    // ---- by WAY

    long settles(long code, int n, boolean became) {
        String m = meadow(code);
        number(n, 0, 500);
        Object[] end = settling(m, n, s.way, true, 0);
        return end == null ? NONE : became ? code((String) end[1]) : (int) end[0];
    }

    int again(long code, boolean first) {
        List<String> were = new ArrayList<>();
        were.add(meadow(code));
        for (int step = 1; step <= 500; step++) {
            String then = next(were.get(step - 1));
            if (then == null) {
                return NONE;
            }
            if (were.contains(then)) {
                return first ? were.indexOf(then) : step;
            }
            were.add(then);
        }
        return NONE;
    }

    boolean alike(long code, long other) {
        String m = meadow(code);
        String o = meadow(other);
        String end = settled(m, 200);
        return end != null && end.equals(settled(o, 200));
    }

    long endless() {
        Set<Character> kinds = kinds(true, false);
        List<String> words = new ArrayList<>(List.of(""));
        for (int size = 1; size <= 3; size++) {
            List<String> longer = new ArrayList<>();
            for (String w : words) {
                for (char c : kinds) {
                    longer.add(w + c);
                }
            }
            for (String w : longer) {
                if (settled(w, 100) == null) {
                    return code(w);
                }
            }
            words = longer;
        }
        return NONE;
    }

    Set<Character> kinds(boolean lefts, boolean rights) {
        Set<Character> kinds = new TreeSet<>();
        for (String[] r : s.rules) {
            for (char c : ((lefts ? r[0] : "") + (rights ? r[1] : "")).toCharArray()) {
                kinds.add(c);
            }
        }
        return kinds;
    }

    long reckons(int kind, int n) {
        number(n, 0, 4);
        number(kind, 0, 3);
        Map<String, String> due = new LinkedHashMap<>();
        if (kind == 0) {
            for (int i = 0; i <= n; i++) {
                for (int j = 0; j <= n; j++) {
                    due.put("a".repeat(i) + "b" + "a".repeat(j), "a".repeat(i + j));
                }
            }
        } else if (kind == 1) {
            Set<String> words = new TreeSet<>(Set.of(""));
            for (int i = 0; i < n; i++) {
                Set<String> longer = new TreeSet<>();
                for (String w : words) {
                    longer.add(w + "a");
                    longer.add(w + "b");
                }
                words = longer;
            }
            for (String w : words) {
                char[] sorted = w.toCharArray();
                Arrays.sort(sorted);
                due.put(w, new String(sorted));
            }
        } else {
            for (int i = 0; i <= n; i++) {
                String a = "a".repeat(i);
                due.put(kind == 2 ? a + "c" : a + a + "d", kind == 2 ? a + "c" + a : a);
            }
        }
        for (Map.Entry<String, String> d : due.entrySet()) {
            if (!d.getValue().equals(settled(d.getKey(), 200))) {
                return code(d.getKey());
            }
        }
        return NONE;
    }

    int dropped(int fields) {
        int best = NONE;
        for (int set = 0; set < 256; set++) {
            boolean real = set < 1 << Math.min(8, s.rules.size());
            if (real && (best == NONE || Integer.bitCount(set) < Integer.bitCount(best))) {
                boolean all = true;
                for (int i = 0; i < s.fields.size(); i++) {
                    if ((fields >> i & 1) == 1) {
                        all &= settling(s.fields.get(i).beasts, 100, s.way, true, set) != null;
                    }
                }
                best = all ? set : best;
            }
        }
        return best;
    }

    // ---- searches

    /** MEADOWS by their fewest STEPS; null, if there are more than 1500. */
    Map<String, Integer> search(String from, int n) {
        Map<String, Integer> far = new LinkedHashMap<>();
        far.put(from, 0);
        List<String> last = List.of(from);
        for (int step = 1; step <= n && !last.isEmpty(); step++) {
            List<String> fresh = new ArrayList<>();
            for (String m : last) {
                for (int[] u : uses(m, "any", true, 0)) {
                    String then = after(m, u[1], u[0]);
                    if (far.putIfAbsent(then, step) == null) {
                        fresh.add(then);
                    }
                }
            }
            if (far.size() > 1500) {
                return null;
            }
            last = fresh;
        }
        return far;
    }

    long becomes(long code, int n, int what) {
        String m = meadow(code);
        number(n, 0, 40);
        what(what, 4);
        Map<String, Integer> far = search(m, n);
        if (far == null) {
            return -3;
        }
        long settled = 0;
        int most = 0;
        long least = NONE;
        for (String f : far.keySet()) {
            most = Math.max(most, f.length());
            if (next(f) == null) {
                settled++;
                least = least == NONE ? code(f) : Math.min(least, code(f));
            }
        }
        return what == 0 ? far.size() : what == 1 ? most : what == 2 ? settled : least;
    }

    int fewest(long from, long to) {
        String f = meadow(from);
        String t = meadow(to);
        int before = 0;
        for (int n = 0; ; n++) {
            Map<String, Integer> far = search(f, n);
            if (far == null) {
                return -3;
            }
            if (far.containsKey(t)) {
                return n;
            }
            if (far.size() == before) {
                return NONE;
            }
            before = far.size();
        }
    }

    long meets(long one, long other, int n, boolean where) {
        String o = meadow(one);
        String p = meadow(other);
        number(n, 0, 12);
        Map<String, Integer> far = search(o, n);
        Map<String, Integer> away = search(p, n);
        if (far == null || away == null) {
            return -3;
        }
        long fewest = NONE;
        long least = NONE;
        for (String m : far.keySet()) {
            if (away.containsKey(m)) {
                int both = far.get(m) + away.get(m);
                if (fewest == NONE || both < fewest) {
                    fewest = both;
                    least = code(m);
                } else if (both == fewest) {
                    least = Math.min(least, code(m));
                }
            }
        }
        return where ? least : fewest;
    }

    /** What a MEADOW is worth for who goes on from it with so many turns left. */
    int worth(String m, int left, Map<String, Integer> known) {
        if (left == 0) {
            return 0;
        }
        String key = m + left;
        if (!known.containsKey(key)) {
            int best = -1;
            for (int[] u : uses(m, "any", true, 0)) {
                best = Math.max(best, -worth(after(m, u[1], u[0]), left - 1, known));
            }
            known.put(key, best);
        }
        return known.get(key);
    }

    int drovers(long code, int n) {
        String m = meadow(code);
        number(n, 1, 8);
        return search(m, n) == null ? -3 : worth(m, n, new HashMap<>());
    }

    int best(long code, int n) {
        String m = meadow(code);
        number(n, 1, 8);
        if (search(m, n) == null) {
            return -3;
        }
        Map<String, Integer> known = new HashMap<>();
        for (int[] u : uses(m, "any", true, 0)) {
            if (-worth(after(m, u[1], u[0]), n - 1, known) == worth(m, n, known)) {
                return 100 * u[0] + u[1];
            }
        }
        return NONE;
    }

    // ---- RULES looked at

    /** {word, by P, by Q} of each OVERLAP. */
    List<String[]> crossings() {
        List<String[]> found = new ArrayList<>();
        for (String[] p : s.rules) {
            for (String[] q : s.rules) {
                for (int k = 1; k < Math.min(p[0].length(), q[0].length()); k++) {
                    if (p[0].endsWith(q[0].substring(0, k))) {
                        String rest = q[0].substring(k);
                        found.add(new String[] {p[0] + rest, p[1] + rest, p[0].substring(0, p[0].length() - k) + q[1]});
                    }
                }
            }
        }
        for (String[] p : s.rules) {
            for (String[] q : s.rules) {
                for (int at = 0; p != q && at < p[0].length(); at++) {
                    if (p[0].startsWith(q[0], at)) {
                        found.add(new String[] {p[0], p[1],
                                p[0].substring(0, at) + q[1] + p[0].substring(at + q[0].length())});
                    }
                }
            }
        }
        return found;
    }

    String[] ends(String[] crossing) {
        Object[] one = settling(crossing[1], 100, "left", false, 0);
        Object[] other = settling(crossing[2], 100, "left", false, 0);
        return new String[] {one == null ? null : (String) one[1], other == null ? null : (String) other[1]};
    }

    long overlaps(int what) {
        what(what, 3);
        long unlike = 0;
        long first = NONE;
        for (String[] c : crossings()) {
            String[] ends = ends(c);
            if (ends[0] == null || !ends[0].equals(ends[1])) {
                unlike++;
                first = first == NONE ? code(c[0]) : first;
            }
        }
        return what == 0 ? crossings().size() : what == 1 ? unlike : first;
    }

    int complete() {
        for (String[] c : crossings()) {
            String[] ends = ends(c);
            if (ends[0] != null && ends[1] != null && !ends[0].equals(ends[1])) {
                boolean swap = ends[0].length() < ends[1].length()
                        || ends[0].length() == ends[1].length() && code(ends[0]) < code(ends[1]);
                String left = ends[swap ? 1 : 0];
                String right = ends[swap ? 0 : 1];
                if (left.isEmpty() || left.length() > 4 || right.length() > 5) {
                    return NONE;
                }
                if (s.rules.size() == 12) {
                    throw new UnsupportedOperationException();
                }
                act();
                s.rules.add(new String[] {left, right});
                return s.rules.size() - 1;
            }
        }
        return NONE;
    }

    static int sum(String m, int[] weights) {
        int sum = 0;
        for (char c : m.toCharArray()) {
            sum += weights[c - 'a'];
        }
        return sum;
    }

    /** All weights from least to most of the kinds, in order. */
    static List<int[]> weightings(Set<Character> kinds, int least, int most) {
        List<int[]> all = new ArrayList<>();
        all.add(new int[8]);
        for (char kind : kinds) {
            List<int[]> more = new ArrayList<>();
            for (int[] w : all) {
                for (int i = least; i <= most; i++) {
                    int[] c = w.clone();
                    c[kind - 'a'] = i;
                    more.add(c);
                }
            }
            all = more;
        }
        return all;
    }

    int never(long from, long to, int beast) {
        String f = meadow(from);
        String t = meadow(to);
        if (beast != NONE) {
            index(beast, 8);
        }
        Set<Character> kinds = kinds(true, true);
        for (char c : (f + t).toCharArray()) {
            kinds.add(c);
        }
        if (kinds.size() > 6) {
            return -3;
        }
        for (int m = 2; m <= 5; m++) {
            for (int[] w : weightings(kinds, 0, m - 1)) {
                boolean holds = sum(f, w) % m != sum(t, w) % m;
                for (String[] r : s.rules) {
                    holds = holds && sum(r[0], w) % m == sum(r[1], w) % m;
                }
                if (holds) {
                    return beast == NONE ? m : w[beast];
                }
            }
        }
        return NONE;
    }

    int falls(int most, int beast) {
        number(most, 1, 5);
        if (beast != NONE) {
            index(beast, 8);
        }
        Set<Character> kinds = kinds(true, true);
        if (kinds.size() > 6) {
            return -3;
        }
        for (int[] w : weightings(kinds, 1, most)) {
            boolean holds = true;
            for (String[] r : s.rules) {
                holds = holds && sum(r[0], w) > sum(r[1], w);
            }
            if (holds) {
                return beast == NONE ? 1 : w[beast];
            }
        }
        return beast == NONE ? 0 : NONE;
    }

    int light(long code) {
        return sum(meadow(code), s.weights);
    }

    int loss(int rule) {
        index(rule, s.rules.size());
        return sum(s.rules.get(rule)[0], s.weights) - sum(s.rules.get(rule)[1], s.weights);
    }

    static boolean explains(String left, String right, String[] seen) {
        for (int at = 0; at + left.length() <= seen[0].length(); at++) {
            if (seen[0].startsWith(left, at)
                    && (seen[0].substring(0, at) + right + seen[0].substring(at + left.length())).equals(seen[1])) {
                return true;
            }
        }
        return false;
    }

    int explained(int seen) {
        index(seen, s.seen.size());
        int set = 0;
        for (int i = 0; i < s.rules.size(); i++) {
            set |= explains(s.rules.get(i)[0], s.rules.get(i)[1], s.seen.get(seen)) ? 1 << i : 0;
        }
        return set;
    }

    int telling() {
        for (int many = 0; many <= 12; many++) {
            for (int set = 0; set < 1 << s.rules.size(); set++) {
                boolean all = Integer.bitCount(set) == many;
                for (int i = 0; all && i < s.seen.size(); i++) {
                    all = (explained(i) & set) != 0;
                }
                if (all) {
                    return set;
                }
            }
        }
        return NONE;
    }

    long guessed(int what) {
        what(what, 3);
        Set<String> found = new LinkedHashSet<>();
        for (int l = 1; l <= 3; l++) {
            for (int r = 0; r <= 3; r++) {
                if (s.seen.isEmpty() || s.seen.get(0)[1].length() - s.seen.get(0)[0].length() != r - l) {
                    continue;
                }
                for (String left : words(l)) {
                    if (!s.seen.get(0)[0].contains(left)) {
                        continue;
                    }
                    for (String right : words(r)) {
                        boolean all = !left.equals(right);
                        for (int i = 0; all && i < s.seen.size(); i++) {
                            all = explains(left, right, s.seen.get(i));
                        }
                        if (all) {
                            found.add(left + ">" + right);
                        }
                    }
                }
            }
        }
        if (what == 0 || found.isEmpty()) {
            return what == 0 ? found.size() : NONE;
        }
        String first = found.iterator().next();
        return code(first.split(">", -1)[what - 1]);
    }

    static List<String> words(int size) {
        List<String> words = new ArrayList<>(List.of(""));
        for (int i = 0; i < size; i++) {
            List<String> longer = new ArrayList<>();
            for (String w : words) {
                for (char c = 'a'; c <= 'h'; c++) {
                    longer.add(w + c);
                }
            }
            words = longer;
        }
        return words;
    }

    int sorts(int what) {
        what(what, 4);
        int set = 0;
        if (what < 2) {
            for (int b = 0; b < 8; b++) {
                set |= kinds(what == 0, what == 1).contains((char) ('a' + b)) ? 0 : 1 << b;
            }
            return set;
        }
        for (int i = 0; i < s.rules.size(); i++) {
            int more = s.rules.get(i)[1].length() - s.rules.get(i)[0].length();
            set |= (what == 2 ? more < 0 : more > 0) ? 1 << i : 0;
        }
        return set;
    }

    // ---- SEED, acts undone, THE IMAGE

    int seed(int n) {
        int before = s.seed;
        s.seed = n;
        return before;
    }

    boolean undo() {
        if (acts.isEmpty()) {
            return false;
        }
        s = acts.removeLast();
        return true;
    }

    void image() {
        image = s.copy();
    }

    boolean back() {
        if (image == null) {
            return false;
        }
        s = image.copy();
        acts.clear();
        return true;
    }

    int count(int what) {
        int steps = 0;
        int beasts = 0;
        for (Field f : s.fields) {
            steps += f.steps;
            beasts += f.beasts.length();
        }
        int[] counts = {s.rules.size(), s.fields.size(), s.seen.size(), s.texts, s.law == null ? NONE : s.law.size(),
            List.of("left", "right", "rule", "all").indexOf(s.way), s.fog, s.year, steps, beasts, acts.size()};
        return what < 0 || what >= counts.length ? NONE : counts[what];
    }
}

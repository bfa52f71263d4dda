import java.util.ArrayList;
import java.util.List;

/** Long runs of calls drawn by fixed numbers, each answer beside that of the Model. */
public final class ModelTest {
    private static final int RUNS = 700;
    private static final int CALLS = 150;

    private long drawn;
    private BeastRules x;
    private Model m;
    private int run;
    private final List<String> told = new ArrayList<>();

    public static void main(String[] args) {
        int first = args.length > 0 ? Integer.parseInt(args[0]) : 0;
        int last = args.length > 1 ? Integer.parseInt(args[1]) : RUNS;
        for (int run = first; run < last && Kit.wrongs() == 0; run++) {
            new ModelTest(run).go();
        }
        Kit.finish("ModelTest");
    }

    private ModelTest(int run) {
        this.run = run;
        drawn = run * 7919L + 17;
        x = new BeastRules();
        m = new Model();
    }

    private int draw(int many) {
        drawn = drawn * 6364136223846793005L + 1442695040888963407L;
        return (int) ((drawn >>> 33) % many);
    }

    private boolean oneIn(int many) {
        return draw(many) == 0;
    }

    private String pick(String... some) {
        return some[draw(some.length)];
    }

    private void due(String what, Kit.Call mine, Kit.Call model) {
        int wrongs = Kit.wrongs();
        Kit.due("run " + run + ": " + what, Kit.answer(model), mine);
        told.add(what);
        if (Kit.wrongs() > wrongs) {
            System.out.println("calls: " + told);
        }
    }

    private void go() {
        int kinds = oneIn(6) ? 8 : 1 + draw(4);
        if (!oneIn(10)) {
            text(firstText(kinds), true);
        }
        if (oneIn(2)) {
            text(lawText(), false);
        }
        for (int call = 0; call < CALLS && Kit.wrongs() == 0; call++) {
            if (oneIn(5)) {
                act(kinds);
            } else if (oneIn(12)) {
                boolean law = oneIn(3);
                text(law ? lawText() : valleyText(kinds, 4), law == oneIn(20));
            } else if (oneIn(30)) {
                tape();
            } else {
                look(kinds);
            }
        }
        lookAtAll();
    }

    // ---- texts

    private void text(String text, boolean valley) {
        String signs = oneIn(5) ? spoiled(text) : text;
        m.tape.setLength(0);
        x.end(0);
        Kit.feed(x, signs);
        m.tape.append(signs);
        if (valley) {
            due("valley(" + signs + ")", () -> x.valley(), () -> m.valley());
        } else {
            due("law(" + signs + ")", () -> x.law(), () -> m.law());
        }
        due("fault()", () -> x.fault(), () -> m.fault());
    }

    private void tape() {
        int a = draw(1 << 20) << 12 ^ draw(1 << 20);
        int b = draw(1 << 20);
        due("feed", () -> x.feed(a, b, -a, 0, -1), () -> m.feed(a, b, -a, 0, -1));
        int n = draw(420) - 10;
        if (oneIn(2)) {
            due("end " + n, () -> x.end(n), () -> m.end(n));
        }
        if (oneIn(2)) {
            due("valley", () -> x.valley(), () -> m.valley());
        }
        due("fault()", () -> x.fault(), () -> m.fault());
    }

    private String spoiled(String text) {
        StringBuilder spoiled = new StringBuilder(text);
        int at = draw(text.length() + 1);
        String sign = pick(" ", ";", "a", "z", "0", "99", "+", "<", "(", ")", ".", "\u00ff", "A", "not ", "to ", "if ",
                "bar ", "1000", " and ", "\u0000");
        if (oneIn(3) && at < text.length()) {
            spoiled.delete(at, Math.min(text.length(), at + 1 + draw(5)));
        }
        if (oneIn(2)) {
            spoiled.insert(Math.min(at, spoiled.length()), sign);
        }
        return fitting(spoiled.toString());
    }

    private static String fitting(String text) {
        return text.length() > 400 ? text.substring(0, 400) : text;
    }

    private String word(int least, int most, int kinds) {
        int size = least + draw(most - least + 1);
        if (size == 0) {
            return ".";
        }
        StringBuilder word = new StringBuilder();
        for (int i = 0; i < size; i++) {
            word.append((char) ('a' + (oneIn(40) ? draw(8) : draw(kinds))));
        }
        return word.toString();
    }

    private String blank() {
        return oneIn(8) ? " ".repeat(1 + draw(2)) : "";
    }

    private String valleyText(int kinds, int most) {
        StringBuilder text = new StringBuilder(blank());
        int lines = draw(most + 1);
        for (int i = 0; i < lines; i++) {
            text.append(i == 0 ? "" : blank() + ";" + blank());
            text.append(valleyLine(kinds));
        }
        return fitting(text.append(blank()).toString());
    }

    private String firstText(int kinds) {
        StringBuilder text = new StringBuilder("first " + pick("left", "right", "rule", "all"));
        for (int i = 1 + draw(5); i > 0; i--) {
            text.append(";").append(ruleLine(kinds));
        }
        for (int i = 1 + draw(4); i > 0; i--) {
            text.append(";").append("field ").append(word(0, oneIn(3) ? 20 : 6, kinds));
        }
        for (int i = draw(4); i > 0; i--) {
            text.append(";").append(seenLine(kinds));
        }
        return fitting(text.toString());
    }

    private String ruleLine(int kinds) {
        return "rule" + " " + blank() + word(1, oneIn(4) ? 4 : 2, kinds) + " to " + blank()
                + word(0, oneIn(3) ? 5 : 2, kinds);
    }

    private String valleyLine(int kinds) {
        switch (draw(16)) {
            case 0: case 1: case 2: case 3: case 4: case 5: case 6:
                return m.s.rules.size() < 10 || oneIn(3) ? ruleLine(kinds) : "fog " + draw(101);
            case 7: case 8: case 9:
                return m.s.fields.size() < 5 || oneIn(4) ? "field " + word(0, oneIn(3) ? 20 : 6, kinds) : "first left";
            case 10: case 11:
                return seenLine(kinds);
            case 12:
                return "first " + pick("left", "right", "rule", "all");
            case 13:
                return "fog" + blank() + (oneIn(20) ? "101" : pick("0", "5", "50", "100", "007", "99"));
            case 14:
                return "weight " + word(1, 1, 8) + blank() + draw(oneIn(20) ? 110 : 100);
            default:
                return "drop " + (oneIn(9) ? draw(13) : draw(Math.max(1, m.s.rules.size())));
        }
    }

    /** Most of these can be by a RULE. */
    private String seenLine(int kinds) {
        String ahead = word(0, 4, kinds).replace(".", "");
        String behind = word(0, 4, kinds).replace(".", "");
        String left = word(1, 3, kinds);
        String right = word(0, 3, kinds).replace(".", "");
        if (!m.s.rules.isEmpty() && !oneIn(3)) {
            String[] rule = m.s.rules.get(draw(m.s.rules.size()));
            left = rule[0];
            right = rule[1];
        }
        String then = ahead + right + behind;
        return "seen " + ahead + left + behind + " to " + (then.isEmpty() ? "." : then);
    }

    private String lawText() {
        StringBuilder text = new StringBuilder(blank());
        int lines = oneIn(8) ? 10 + draw(4) : draw(3);
        for (int i = 0; i < lines; i++) {
            text.append(i == 0 ? "" : blank() + ";" + blank()).append("bar");
            if (!oneIn(12)) {
                text.append(" if ").append(blank()).append(any(0));
            }
        }
        return fitting(text.append(blank()).toString());
    }

    private String any(int deep) {
        return each(deep) + (oneIn(5) ? blank() + " or " + each(deep) : "");
    }

    private String each(int deep) {
        return atom(deep) + (oneIn(3) ? " and " + blank() + atom(deep) : "");
    }

    private String atom(int deep) {
        if (deep < 7 && oneIn(3)) {
            return oneIn(2) ? "not " + blank() + atom(deep + 1) : "(" + blank() + any(deep + 1) + ")";
        }
        if (oneIn(6)) {
            return "end";
        }
        return sum() + blank() + pick("<", ">") + blank() + sum();
    }

    private String sum() {
        return part() + (oneIn(4) ? blank() + "+" + blank() + part() : "");
    }

    private String part() {
        return oneIn(2) ? "" + draw(oneIn(20) ? 1200 : 8) : pick("rule", "place", "long", "behind", "year");
    }

    // ---- calls

    private long meadow(int kinds) {
        if (oneIn(25)) {
            long[] none = {0, -1, 2, 7, 16, 63, Long.MIN_VALUE, Long.MAX_VALUE, 1L << 61, 1L << 63, -8, 4L << 57};
            return none[draw(none.length)];
        }
        if (!m.s.fields.isEmpty() && oneIn(3)) {
            return Kit.code(m.s.fields.get(draw(m.s.fields.size())).beasts);
        }
        return Kit.code(word(0, oneIn(8) ? 20 : 5, kinds));
    }

    /** Mostly below a bound, at times a little outside. */
    private int index(int many) {
        return oneIn(15) ? pickNumber(-1, many, Integer.MIN_VALUE, Integer.MAX_VALUE) : draw(Math.max(1, many));
    }

    private int pickNumber(int... some) {
        return some[draw(some.length)];
    }

    private int within(int least, int most) {
        return oneIn(15) ? pickNumber(least - 1, most + 1, least, most, Integer.MIN_VALUE, Integer.MAX_VALUE)
                : least + draw(most - least + 1);
    }

    private void act(int kinds) {
        int f = index(m.s.fields.size());
        int r = index(m.s.rules.size());
        switch (draw(12)) {
            case 0: case 1: {
                int[] turn = turn(f, r);
                int p = turn[0];
                int u = turn[1];
                due("use(" + f + ", " + u + ", " + p + ")", () -> x.use(f, u, p), () -> m.use(f, u, p));
                break;
            }
            case 2: case 3: {
                int n = oneIn(3) ? within(1, 200) : within(1, 4);
                due("run(" + f + ", " + n + ")", () -> x.run(f, n), () -> m.run(f, n));
                break;
            }
            case 4: {
                long c = meadow(kinds);
                due("put(" + f + ", " + c + ")", () -> x.put(f, c), () -> m.put(f, c));
                break;
            }
            case 5: {
                long l = oneIn(9) ? meadow(kinds) : Kit.code(word(1, 3, kinds));
                long t = oneIn(9) ? meadow(kinds) : Kit.code(word(0, 3, kinds));
                due("add(" + l + ", " + t + ")", () -> x.add(l, t), () -> m.add(l, t));
                break;
            }
            case 6:
                due("drop(" + r + ")", () -> x.drop(r), () -> m.drop(r));
                break;
            case 7: case 8: {
                int n = oneIn(3) ? within(1, 200) : within(1, 5);
                due("years(" + f + ", " + n + ")", () -> x.years(f, n), () -> m.years(f, n));
                break;
            }
            case 9:
                due("complete()", () -> x.complete(), () -> m.complete());
                break;
            case 10: {
                int many = oneIn(5) ? 20 : 1 + draw(3);
                for (int i = 0; i < many; i++) {
                    due("undo()", () -> x.undo(), () -> m.undo());
                }
                break;
            }
            default:
                keep();
        }
    }

    /** {place, rule}: mostly one that fits. */
    private int[] turn(int field, int rule) {
        if (field >= 0 && field < m.s.fields.size() && !oneIn(3)) {
            List<int[]> fit = m.uses(m.s.fields.get(field).beasts, "any", true, 0);
            if (!fit.isEmpty()) {
                return fit.get(draw(fit.size()));
            }
        }
        return new int[] {index(6), rule};
    }

    private void keep() {
        if (oneIn(2)) {
            x.image();
            m.image();
            told.add("image()");
        } else if (oneIn(2)) {
            due("back()", () -> x.back(), () -> m.back());
        } else {
            int n = draw(1 << 30) - draw(1 << 30);
            due("seed(" + n + ")", () -> x.seed(n), () -> m.seed(n));
        }
    }

    private void look(int kinds) {
        switch (draw(8)) {
            case 0:
                lookAtTold(kinds);
                break;
            case 1: case 2:
                lookByWay(kinds);
                break;
            case 3: case 4:
                search(kinds);
                break;
            case 5: case 6:
                lookAtRules(kinds);
                break;
            default:
                lookAtSeen();
        }
    }

    private void lookAtTold(int kinds) {
        int f = index(m.s.fields.size());
        int r = index(m.s.rules.size());
        boolean b = oneIn(2);
        long c = meadow(kinds);
        int p = index(8);
        int w = within(0, 1);
        switch (draw(7)) {
            case 0: due("rule(" + r + ", " + b + ")", () -> x.rule(r, b), () -> m.rule(r, b)); break;
            case 1: due("field(" + f + ")", () -> x.field(f), () -> m.field(f)); break;
            case 2: due("beast(" + c + ", " + p + ")", () -> x.beast(c, p), () -> m.beast(c, p)); break;
            case 3: due("steps(" + f + ")", () -> x.steps(f), () -> m.steps(f)); break;
            case 4:
                due("maker(" + f + ", " + p + ", " + w + ")", () -> x.maker(f, p, w), () -> m.maker(f, p, w));
                break;
            case 5: {
                int[] turn = turn(f, r);
                int u = turn[1];
                long d = f >= 0 && f < m.s.fields.size() && !oneIn(3) ? Kit.code(m.s.fields.get(f).beasts) : c;
                due("fits(" + d + ", " + u + ", " + turn[0] + ")", () -> x.fits(d, u, turn[0]), () -> m.fits(d, u, turn[0]));
                break;
            }
            default: {
                int what = within(0, 10);
                due("count(" + what + ")", () -> x.count(what), () -> m.count(what));
            }
        }
    }

    private void lookByWay(int kinds) {
        long c = meadow(kinds);
        long d = meadow(kinds);
        boolean b = oneIn(2);
        switch (draw(6)) {
            case 0: case 1: {
                int n = oneIn(2) ? within(0, 500) : within(0, 6);
                due("settles(" + c + ", " + n + ", " + b + ")", () -> x.settles(c, n, b), () -> m.settles(c, n, b));
                break;
            }
            case 2: due("again(" + c + ", " + b + ")", () -> x.again(c, b), () -> m.again(c, b)); break;
            case 3: due("alike(" + c + ", " + d + ")", () -> x.alike(c, d), () -> m.alike(c, d)); break;
            case 4: due("endless()", () -> x.endless(), () -> m.endless()); break;
            default: {
                int k = within(0, 3);
                int n = within(0, 4);
                due("reckons(" + k + ", " + n + ")", () -> x.reckons(k, n), () -> m.reckons(k, n));
                int set = oneIn(2) ? draw(64) : -1 - draw(64);
                due("dropped(" + set + ")", () -> x.dropped(set), () -> m.dropped(set));
            }
        }
    }

    private void search(int kinds) {
        long c = meadow(kinds);
        long d = oneIn(2) ? meadow(kinds) : wandered(c);
        switch (draw(5)) {
            case 0: {
                int n = oneIn(3) ? within(0, 40) : within(0, 6);
                int w = within(0, 3);
                due("becomes(" + c + ", " + n + ", " + w + ")", () -> x.becomes(c, n, w), () -> m.becomes(c, n, w));
                break;
            }
            case 1: due("fewest(" + c + ", " + d + ")", () -> x.fewest(c, d), () -> m.fewest(c, d)); break;
            case 2: {
                int n = within(0, 12);
                boolean b = oneIn(2);
                due("meets(" + c + ", " + d + ", " + n + ", " + b + ")", () -> x.meets(c, d, n, b), () -> m.meets(c, d, n, b));
                break;
            }
            default: {
                int n = within(1, 8);
                due("drovers(" + c + ", " + n + ")", () -> x.drovers(c, n), () -> m.drovers(c, n));
                due("best(" + c + ", " + n + ")", () -> x.best(c, n), () -> m.best(c, n));
            }
        }
    }

    /** A MEADOW that another one can become, if it is one. */
    private long wandered(long code) {
        try {
            String here = Model.meadow(code);
            for (int i = draw(5); i >= 0; i--) {
                List<int[]> turns = m.uses(here, "any", true, 0);
                if (turns.isEmpty()) {
                    break;
                }
                int[] turn = turns.get(draw(turns.size()));
                here = m.after(here, turn[1], turn[0]);
            }
            return Kit.code(here);
        } catch (IllegalArgumentException none) {
            return code;
        }
    }

    private void lookAtRules(int kinds) {
        int w = within(0, 2);
        int b = within(-1, 7);
        switch (draw(6)) {
            case 0: due("overlaps(" + w + ")", () -> x.overlaps(w), () -> m.overlaps(w)); break;
            case 1: {
                long c = meadow(kinds);
                long d = oneIn(3) ? meadow(kinds) : Kit.code(word(0, 4, kinds));
                due("never(" + c + ", " + d + ", " + b + ")", () -> x.never(c, d, b), () -> m.never(c, d, b));
                break;
            }
            case 2: {
                int n = within(1, 5);
                due("falls(" + n + ", " + b + ")", () -> x.falls(n, b), () -> m.falls(n, b));
                break;
            }
            case 3: {
                long c = meadow(kinds);
                due("light(" + c + ")", () -> x.light(c), () -> m.light(c));
                break;
            }
            case 4: {
                int r = index(m.s.rules.size());
                due("loss(" + r + ")", () -> x.loss(r), () -> m.loss(r));
                break;
            }
            default: {
                int s = within(0, 3);
                due("sorts(" + s + ")", () -> x.sorts(s), () -> m.sorts(s));
            }
        }
    }

    private void lookAtSeen() {
        int s = index(m.s.seen.size());
        boolean b = oneIn(2);
        int w = within(0, 2);
        switch (draw(4)) {
            case 0: due("seen(" + s + ", " + b + ")", () -> x.seen(s, b), () -> m.seen(s, b)); break;
            case 1: due("explained(" + s + ")", () -> x.explained(s), () -> m.explained(s)); break;
            case 2: due("telling()", () -> x.telling(), () -> m.telling()); break;
            default:
                if (oneIn(4)) {
                    due("guessed(" + w + ")", () -> x.guessed(w), () -> m.guessed(w));
                }
        }
    }

    private void lookAtAll() {
        for (int i = -1; i <= 12; i++) {
            int k = i;
            due("count(" + k + ")", () -> x.count(k), () -> m.count(k));
            due("rule(" + k + ", false)", () -> x.rule(k, false), () -> m.rule(k, false));
            due("rule(" + k + ", true)", () -> x.rule(k, true), () -> m.rule(k, true));
            due("seen(" + k + ", false)", () -> x.seen(k, false), () -> m.seen(k, false));
            due("seen(" + k + ", true)", () -> x.seen(k, true), () -> m.seen(k, true));
            due("field(" + k + ")", () -> x.field(k), () -> m.field(k));
            due("steps(" + k + ")", () -> x.steps(k), () -> m.steps(k));
            for (int p = 0; p < 20; p++) {
                int place = p;
                due("maker(" + k + ", " + p + ", 0)", () -> x.maker(k, place, 0), () -> m.maker(k, place, 0));
                due("maker(" + k + ", " + p + ", 1)", () -> x.maker(k, place, 1), () -> m.maker(k, place, 1));
            }
        }
        due("seed(0)", () -> x.seed(0), () -> m.seed(0));
    }
}

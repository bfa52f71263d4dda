/** The sentences of promises 20 to 22 and 32 to 34: what MEADOWS settle to by WAY. */
final class WaySentences extends Sentences {
    private static final String DOWN = Machines.COUNT_DOWN + ";rule g to h";

    static void tests() {
        promise20();
        promise20Settled();
        promise21();
        promise22();
        promise32();
        promise33();
        promise33Kinds();
        promise34();
    }

    /** A MEADOW of DOWN that takes so many STEPS more than 3 times a number less its b. */
    private static long down(int number, int more) {
        return c("g".repeat(more) + Machines.digits(number) + "e");
    }

    // ---- 20: SETTLES

    private static void promise20() {
        test(20, "`long settles(long meadow, int n, boolean became) throws IllegalArgumentException`:", () -> {
            BeastRules x = Kit.of("rule a to b");
            for (long none : NO_CODES) {
                due("CODE " + none, ARGUMENT, () -> x.settles(none, 1, false));
                due("CODE " + none, ARGUMENT, () -> x.settles(none, 0, true));
            }
            for (int none : new int[] {-1, 501, Integer.MIN_VALUE, Integer.MAX_VALUE}) {
                due("N " + none, ARGUMENT, () -> x.settles(9, none, false));
                due("N " + none, ARGUMENT, () -> x.settles(9, none, true));
            }
        });
        test(20, "SETTLES: STEPS (became false), or the CODE then; NONE. IllegalArgumentException.", () -> {
            BeastRules x = Kit.of("rule b to a;field bbb");
            due("STEPS", 3, () -> x.settles(c("bbb"), 500, false));
            due("the CODE", c("aaa"), () -> x.settles(c("bbb"), 500, true));
            due("NONE", NONE, () -> x.settles(c("bbb"), 2, false));
            due("NONE", NONE, () -> x.settles(c("bbb"), 2, true));
            due("no FIELD changes", c("bbb"), () -> x.field(0));
            due("no act", 0, () -> x.count(10));
        });
        test(20, "SETTLES: in how many STEPS (by WAY) a MEADOW is SETTLED, within N (0 to 500); what it is then.", () -> {
            BeastRules x = Kit.of(DOWN);
            due("500 within 500", 500, () -> x.settles(down(167, 4), 500, false));
            due("500 within 500", c("hhhhaaaaaaaae"), () -> x.settles(down(167, 4), 500, true));
            due("500 not within 499", NONE, () -> x.settles(down(167, 4), 499, false));
            due("500 not within 499", NONE, () -> x.settles(down(167, 4), 499, true));
            due("501 not within 500", NONE, () -> x.settles(down(167, 5), 500, false));
            due("0 within 0", 0, () -> x.settles(c("aae"), 0, false));
            due("0 within 0", c("aae"), () -> x.settles(c("aae"), 0, true));
            due("1 not within 0", NONE, () -> x.settles(c("g"), 0, false));
            due("1 within 1", 1, () -> x.settles(c("g"), 1, false));
            due("an empty MEADOW", 0, () -> x.settles(1, 0, false));
            due("an empty MEADOW", 1, () -> x.settles(1, 500, true));
            for (int n = 0; n <= 7; n++) {
                int within = n;
                due("7 within " + n, n < 7 ? NONE : 7, () -> x.settles(c("ggggggg"), within, false));
            }
        });
    }

    private static void promise20Settled() {
        test(20, "a MEADOW is SETTLED, if none can be gone.", () -> {
            due("all, and too many would come of it", 0, () -> Kit.of("rule a to bb;first all").settles(c(a(11)), 0, false));
            due("left, and one can be gone", NONE, () -> Kit.of("rule a to bb;first left").settles(c(a(11)), 0, false));
            due("20, and each would be longer", 0, () -> Kit.of("rule a to bb").settles(c(a(20)), 0, false));
            due("20, and one would not", NONE, () -> Kit.of("rule a to bb;rule a to b").settles(c(a(20)), 0, false));
            due("a RULE of both sides alike can be used", NONE, () -> Kit.of("rule a to a").settles(8, 500, false));
            due("all is barred", 0, () -> Kit.of("rule a to a", "bar").settles(8, 0, false));
            due("no RULES", 0, () -> new BeastRules().settles(8, 0, false));
            // What was dropped is there again behind the call.
            BeastRules x = Kit.of("rule a to b;rule b to a;rule c to c;field a;field c");
            due("two dropped", 5, () -> x.dropped(3));
            due("none is left out", NONE, () -> x.settles(8, 500, false));
            due("two dropped", 5, () -> x.dropped(3));
            due("none is left out", true, () -> x.fits(8, 0, 0));
            due("two dropped", 5, () -> x.dropped(3));
            due("none is left out", 5, () -> x.run(0, 5));
        });
        test(20, "SETTLES: in how many STEPS (by WAY) a MEADOW is SETTLED,", () -> {
            // Rounds of each length, with two STEPS ahead of them: none of these settles.
            for (int round = 1; round <= 6; round++) {
                StringBuilder rules = new StringBuilder("rule a to b;rule b to c");
                for (int i = 0; i < round; i++) {
                    rules.append(";rule ").append((char) ('c' + i)).append(" to ").append((char) ('c' + (i + 1) % round));
                }
                BeastRules x = Kit.of(rules.toString());
                for (int n : new int[] {0, 1, 2, 3, 4, 7, 8, 63, 64, 65, 500}) {
                    due("a round of " + round + " within " + n, NONE, () -> x.settles(8, n, false));
                }
            }
        });
    }

    // ---- 21: COMES AGAIN

    private static void promise21() {
        test(21, "`int again(long meadow, boolean first) throws IllegalArgumentException`:", () -> {
            BeastRules x = Kit.of("rule a to b");
            for (long none : NO_CODES) {
                due("CODE " + none, ARGUMENT, () -> x.again(none, false));
                due("CODE " + none, ARGUMENT, () -> x.again(none, true));
            }
        });
        test(21, "COMES AGAIN: the STEP (first false), or the earlier one; NONE. IllegalArgumentException.", () -> {
            BeastRules x = Kit.of("rule f to g;rule g to a;rule a to b;rule b to c;rule c to a;field f");
            due("the STEP", 5, () -> x.again(c("f"), false));
            due("the earlier one", 2, () -> x.again(c("f"), true));
            due("NONE, if it settles", NONE, () -> x.again(c("h"), false));
            due("NONE, if it settles", NONE, () -> x.again(c("h"), true));
            due("NONE of an empty MEADOW", NONE, () -> x.again(1, false));
            due("no FIELD changes", c("f"), () -> x.field(0));
        });
        test(21, "COMES AGAIN: within 500 STEPS: the first STEP behind which it is as it was behind an earlier one (0: at first): that; the earlier one.", () -> {
            BeastRules alike = Kit.of("rule a to a");
            due("at once", 1, () -> alike.again(8, false));
            due("as at first", 0, () -> alike.again(8, true));
            BeastRules x = Kit.of(Machines.COUNT_DOWN + ";rule h to f;rule g to g");
            // g goes on for ever, as soon as the h to the right of it are gone: the STEP behind that is as it.
            due("500", 500, () -> x.again(c("ghhh" + Machines.digits(167) + "e"), false));
            due("of 500 the earlier one", 499, () -> x.again(c("ghhh" + Machines.digits(167) + "e"), true));
            due("501", NONE, () -> x.again(c("ghhhh" + Machines.digits(167) + "e"), false));
            due("501", NONE, () -> x.again(c("ghhhh" + Machines.digits(167) + "e"), true));
        });
    }

    // ---- 22: alike

    private static void promise22() {
        test(22, "`boolean alike(long meadow, long other) throws IllegalArgumentException`:", () -> {
            BeastRules x = Kit.of("rule a to a;rule b to c");
            for (long none : NO_CODES) {
                due("CODE " + none, ARGUMENT, () -> x.alike(none, 9));
                due("other " + none, ARGUMENT, () -> x.alike(9, none));
                due("other " + none + " of one that never settles", ARGUMENT, () -> x.alike(8, none));
            }
        });
        test(22, "Whether two settle (by WAY, within 200 STEPS) to one MEADOW. IllegalArgumentException.", () -> {
            BeastRules x = Kit.of(Machines.COUNT_DOWN + ";rule g to h");
            long end = c("hhaaaaaaae");
            due("200 and 0", true, () -> x.alike(down(67, 2), end));
            due("0 and 200", true, () -> x.alike(end, down(67, 2)));
            due("200 and 200", true, () -> x.alike(down(67, 2), down(67, 2)));
            long far = c("hhhaaaaaaae");
            due("201 and 0", false, () -> x.alike(down(67, 3), far));
            due("0 and 201", false, () -> x.alike(far, down(67, 3)));
            due("201 and 201 of one MEADOW", false, () -> x.alike(down(67, 3), down(67, 3)));
            due("settled, and another", false, () -> x.alike(c("aae"), c("ae")));
            due("empty ones", true, () -> x.alike(1, 1));
            due("an empty one and another", false, () -> x.alike(1, 8));
            BeastRules round = Kit.of("rule a to a;rule b to c");
            due("neither settles", false, () -> round.alike(8, 8));
            due("by WAY", true, () -> Kit.of("rule a to b;rule a to c;first rule").alike(c("a"), c("b")));
            due("by WAY", false, () -> Kit.of("rule ab to c;rule b to d;first right").alike(c("ab"), c("c")));
        });
    }

    // ---- 32: ENDLESS

    private static void promise32() {
        test(32, "`long endless()`: ENDLESS; NONE.", () -> {
            due("no RULES", NONE, () -> new BeastRules().endless());
            due("all settle", NONE, () -> Kit.of("rule ba to ab").endless());
            due("one does not", 8, () -> Kit.of("rule a to a").endless());
            BeastRules x = Kit.of("rule a to a;field a");
            x.endless();
            due("nothing happens", 0, () -> x.steps(0));
        });
        test(32, "ENDLESS: the first MEADOW (by BEASTS that stand in LEFTS alone; by number of BEASTS 1 to 3, then by CODE)", () -> {
            due("of 1, the last", 15, () -> Kit.of("rule h to h").endless());
            due("of 2, the first", c("aa"), () -> Kit.of("rule aa to aa").endless());
            due("of 2, the last", c("hh"), () -> Kit.of("rule hh to hh").endless());
            due("of 3, the first", c("aaa"), () -> Kit.of("rule aaa to aaa").endless());
            due("of 3, the last", c("hhh"), () -> Kit.of("rule hhh to hhh").endless());
            due("of 4", NONE, () -> Kit.of("rule aaaa to aaaa").endless());
            due("by CODE", c("ab"), () -> Kit.of("rule ba to ba;rule ab to ab").endless());
            due("fewer BEASTS first", c("h"), () -> Kit.of("rule aa to aa;rule h to h").endless());
            // Of a alone all settle; aha would not, but h stands in no LEFT.
            due("BEASTS of LEFTS alone", NONE, () -> Kit.of("rule aa to h;rule a to a", "bar if rule > 0 and long < 3").endless());
            due("BEASTS of LEFTS alone", c("aba"), () -> Kit.of("rule aa to h;rule a to a;rule bb to .", "bar if rule > 0 and rule < 2 and long < 3").endless());
            due("a BEAST of any LEFT", c("ah"), () -> Kit.of("rule ah to ah;rule bcd to b").endless());
        });
        test(32, "that is not SETTLED within 100 STEPS (by WAY); NONE.", () -> {
            // f alone is made a number that is counted down in 100 STEPS, or in 101; all others are barred, or fewer.
            String down = Machines.COUNT_DOWN + ";rule d to bbbab;rule g to h;rule f to ";
            String law = "bar if rule < 4 and rule > 2 and long < 5; bar if rule > 4 and long > 1";
            due("100", NONE, () -> Kit.of(down + "ddgde", law).endless());
            due("101", c("f"), () -> Kit.of(down + "dagde", law).endless());
            due("by WAY", NONE, () -> Kit.of("rule a to b;rule a to a").endless());
            due("by WAY", 8, () -> Kit.of("rule a to a;rule a to b").endless());
            due("a MEADOW that is full settles", NONE, () -> Kit.of("rule a to aa").endless());
            due("all: one that is too full settles", NONE, () -> Kit.of("rule a to aa;first all").endless());
        });
    }

    // ---- 33: RECKONS

    private static void promise33() {
        test(33, "`long reckons(int kind, int n) throws IllegalArgumentException`:", () -> {
            BeastRules x = new BeastRules();
            due("kind -1", ARGUMENT, () -> x.reckons(-1, 0));
            due("kind 4", ARGUMENT, () -> x.reckons(4, 0));
            due("N -1", ARGUMENT, () -> x.reckons(0, -1));
            due("N 5", ARGUMENT, () -> x.reckons(0, 5));
            for (int far : FAR) {
                due("kind " + far, ARGUMENT, () -> x.reckons(far, 0));
                for (int i = 0; i < 4; i++) {
                    int kind = i;
                    due("N " + far, ARGUMENT, () -> x.reckons(kind, far));
                }
            }
        });
        test(33, "RECKONS; NONE, if all do. IllegalArgumentException: N, or the kind (0 to 3) is none.", () -> {
            String[] rules = {"rule b to .", "rule ba to ab", "rule a to a", "rule d to ."};
            String[] laws = {"", "", "bar", ""};
            for (int i = 0; i < 4; i++) {
                int kind = i;
                BeastRules x = Kit.of(rules[i], laws[i]);
                due("kind " + kind + ", N 0", NONE, () -> x.reckons(kind, 0));
            }
            due("adds, N 4", NONE, () -> Kit.of("rule b to .").reckons(0, 4));
            due("sorts, N 4", NONE, () -> Kit.of("rule ba to ab").reckons(1, 4));
            due("copies, N 1", NONE, () -> Kit.of("rule ac to aca", "bar if long > 2").reckons(2, 1));
            due("copies, N 4", NONE, () -> Kit.of(COPIES, ONCE).reckons(2, 4));
            due("halves, N 4", NONE, () -> Kit.of("rule aad to da;rule d to .").reckons(3, 4));
        });
        test(33, "RECKONS for N (0 to 4):", () -> {
            // Each does up to N 3.
            due("adds, N 3", NONE, () -> Kit.of("rule b to .", "bar if place > 3").reckons(0, 3));
            due("adds, I 4", c("aaaab"), () -> Kit.of("rule b to .", "bar if place > 3").reckons(0, 4));
            due("adds, N 3", NONE, () -> Kit.of("rule b to .", "bar if behind > 3").reckons(0, 3));
            due("adds, J 4", c("baaaa"), () -> Kit.of("rule b to .", "bar if behind > 3").reckons(0, 4));
            due("sorts, N 3", NONE, () -> Kit.of("rule ba to ab", "bar if long > 3").reckons(1, 3));
            due("sorts, N 4", c("aaba"), () -> Kit.of("rule ba to ab", "bar if long > 3").reckons(1, 4));
            due("copies, N 3", NONE, () -> Kit.of(COPIES, ONCE + ";bar if rule < 1 and place > 2").reckons(2, 3));
            due("copies, N 4", c("aaaac"), () -> Kit.of(COPIES, ONCE + ";bar if rule < 1 and place > 2").reckons(2, 4));
            due("halves, N 3", NONE, () -> Kit.of("rule aad to da;rule d to .", "bar if long > 7").reckons(3, 3));
            due("halves, N 4", c("aaaaaaaad"), () -> Kit.of("rule aad to da;rule d to .", "bar if long > 7").reckons(3, 4));
        });
    }

    /** d takes the place of c; each a ahead of it makes one behind it and is e; when all are, d is c, and they are a again. */
    private static final String COPIES = "first rule;rule ac to ad;rule ad to eda;rule ae to ea;rule ed to bc;rule eb to bb;rule b to a";

    private static final String ONCE = "bar if rule < 1 and behind > 0";

    private static void promise33Kinds() {
        test(33, "0 adds: each I a, b, J a (I, J 0 to N) settles to I and J a.", () -> {
            due("nothing but b", 9, () -> new BeastRules().reckons(0, 0));
            due("b becomes none", NONE, () -> Kit.of("rule b to .").reckons(0, 0));
            due("only ahead of an a", 9, () -> Kit.of("rule ba to a").reckons(0, 1));
            due("I 1, J 1", c("aba"), () -> Kit.of("rule aba to a;rule b to .").reckons(0, 1));
            due("I 0, J 1", c("ba"), () -> Kit.of("rule ba to .;rule b to .").reckons(0, 1));
            due("I 1, J 0", c("ab"), () -> Kit.of("rule ab to .;rule b to .").reckons(0, 1));
        });
        test(33, "1 sorts: each MEADOW of N a or b settles to all a, then all b.", () -> {
            due("none of 0", NONE, () -> Kit.of("rule a to c;rule b to c").reckons(1, 0));
            due("of 1 the first", c("a"), () -> Kit.of("rule a to c;rule b to c").reckons(1, 1));
            due("of 1 the second", c("b"), () -> Kit.of("rule b to c").reckons(1, 1));
            due("of 2", c("ba"), () -> new BeastRules().reckons(1, 2));
            due("of 2 the last", c("bb"), () -> Kit.of("rule ba to ab;rule bb to c").reckons(1, 2));
            due("of 4 the last", c("bbbb"), () -> Kit.of("rule bbbb to c;rule ba to ab").reckons(1, 4));
            due("of N alone", NONE, () -> Kit.of("rule ba to ab;rule b to a", "bar if rule > 0 and long > 1").reckons(1, 2));
            due("a and b alone", NONE, () -> Kit.of("rule ba to ab;rule c to a;rule h to b").reckons(1, 4));
        });
        test(33, "2 copies: each I a, then c (I 0 to N) settles to I a, c, I a.", () -> {
            due("c stays", NONE, () -> new BeastRules().reckons(2, 0));
            due("c does not", c("c"), () -> Kit.of("rule c to .").reckons(2, 0));
            due("c does not", c("c"), () -> Kit.of("rule c to aca").reckons(2, 4));
            due("I 1", c("ac"), () -> new BeastRules().reckons(2, 1));
            due("I 2", c("aac"), () -> Kit.of("rule ac to aca", "bar if long > 2").reckons(2, 2));
        });
        test(33, "3 halves: each 2 I a, then d settles to I a.", () -> {
            due("d stays", c("d"), () -> new BeastRules().reckons(3, 0));
            due("d goes", NONE, () -> Kit.of("rule d to .").reckons(3, 0));
            due("I 1", c("aad"), () -> Kit.of("rule d to .").reckons(3, 1));
            due("I 1", NONE, () -> Kit.of("rule aad to da;rule d to .").reckons(3, 1));
            due("odd ones are not asked for", NONE, () -> Kit.of("rule aad to da;rule ad to h;rule d to .").reckons(3, 4));
        });
        test(33, "(By WAY, within 200 STEPS):", () -> {
            due("200", NONE, () -> Kit.of(Machines.CLEARED + "rule d to fggge;rule g to bbhh").reckons(3, 0));
            due("201", c("d"), () -> Kit.of(Machines.CLEARED + "rule d to fgaae;rule g to baaaa").reckons(3, 0));
            due("by WAY", NONE, () -> Kit.of("rule d to .;rule d to a").reckons(3, 0));
            due("by WAY", c("d"), () -> Kit.of("rule d to a;rule d to .").reckons(3, 0));
        });
        test(33, "the CODE of the first MEADOW that does not (by I, then J; by CODE); NONE, if all do.", () -> {
            due("I ahead of J", c("baa"), () -> Kit.of("rule baa to c;rule aab to c;rule b to .").reckons(0, 2));
            due("I ahead of J", c("aab"), () -> Kit.of("rule aab to c;rule b to .").reckons(0, 2));
            due("by CODE", c("aaba"), () -> new BeastRules().reckons(1, 4));
            due("by CODE", c("abab"), () -> Kit.of("rule aaba to aaab;rule abaa to aaab;rule aaaa to aaaa", "bar if rule > 1").reckons(1, 4));
            due("by I", c("ac"), () -> Kit.of("rule aac to c").reckons(2, 2));
        });
    }

    // ---- 34: DROPPED

    private static void promise34() {
        test(34, "`int dropped(int fields)`: DROPPED, as bits; NONE.", () -> {
            BeastRules x = Kit.of("rule a to a;rule b to b;rule c to c;field a;field b;field c;field ab;field d;field abc");
            due("no FIELD", 0, () -> x.dropped(0));
            due("the first", 1, () -> x.dropped(1));
            due("the second", 2, () -> x.dropped(2));
            due("the first and third", 5, () -> x.dropped(5));
            due("one that settles", 0, () -> x.dropped(16));
            due("the last", 7, () -> x.dropped(32));
            due("all", 7, () -> x.dropped(63));
            due("those that there are not count for nothing", 0, () -> x.dropped(64));
            due("those that there are not count for nothing", 7, () -> x.dropped(-1));
            due("those that there are not count for nothing", 0, () -> x.dropped(Integer.MIN_VALUE));
            due("those that there are not count for nothing", 7, () -> x.dropped(Integer.MAX_VALUE));
            due("nothing is dropped", 3, () -> x.count(0));
            due("nothing is gone", 0, () -> x.count(8));
            due("no act", 0, () -> x.count(10));
            due("no FIELDS, no RULES", 0, () -> new BeastRules().dropped(-1));
        });
        test(34, "DROPPED: the fewest of RULES 0 to 7 to be dropped so that all FIELDS of a set settle", () -> {
            String seven = "rule h to h" + ";rule h to h".repeat(6);
            due("RULE 7", 128, () -> Kit.of(seven + ";rule a to a;field a").dropped(1));
            due("RULE 8", NONE, () -> Kit.of(seven + ";rule h to h;rule a to a;field a").dropped(1));
            due("RULE 11", NONE, () -> Kit.of(seven + ";rule h to h;rule h to h;rule h to h;rule h to h;rule a to a;field a").dropped(1));
            due("all eight", 255, () -> Kit.of("rule a to a" + ";rule a to a".repeat(7) + ";field a").dropped(1));
            due("all eight of nine are too few", NONE, () -> Kit.of("rule a to a" + ";rule a to a".repeat(8) + ";field a").dropped(1));
            due("the fewest", 4, () -> Kit.of("rule a to b;rule a to b;rule b to a;field a").dropped(1));
            due("two are fewer than three", 24, () -> Kit.of("rule a to b;rule a to b;rule a to b;rule b to a;rule c to c;field ac").dropped(1));
            due("all of the set settle", 3, () -> Kit.of("rule a to a;rule b to b;field a;field b;field c").dropped(7));
        });
        test(34, "(by WAY, within 100 STEPS; the others keep their numbers in THE LAW):", () -> {
            BeastRules x = Kit.of(DOWN + ";field g" + Machines.digits(34) + "e;field " + Machines.digits(34) + "e");
            due("100", 0, () -> x.dropped(2));
            due("101", 1, () -> x.dropped(1));
            due("by WAY", 0, () -> Kit.of("rule aab to .;rule b to b;field aab;first left").dropped(1));
            due("by WAY", 2, () -> Kit.of("rule aab to .;rule b to b;field aab;first right").dropped(1));
            BeastRules law = Kit.of("rule b to b;rule a to a;rule a to a;field a", "bar if rule > 1");
            due("RULE 2 is barred still", 2, () -> law.dropped(1));
            BeastRules other = Kit.of("rule c to c;rule a to a;field ac", "bar if rule < 1");
            due("RULE 1 is not barred instead", 2, () -> other.dropped(1));
        });
        test(34, "of several the least as bits; NONE.", () -> {
            due("of two", 1, () -> Kit.of("rule a to b;rule b to a;field a").dropped(1));
            due("of two pairs", 3, () -> Kit.of("rule a to b;rule c to d;rule b to a;rule d to c;field ac").dropped(1));
            due("none", NONE, () -> Kit.of("rule h to h" + ";rule h to h".repeat(7) + ";rule a to a;field a").dropped(1));
        });
    }
}

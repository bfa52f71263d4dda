/** The sentences of promises 23 to 25, 38 and 39: all that can be come to by any order. */
final class SearchSentences extends Sentences {
    static void tests() {
        promise23();
        promise23Within();
        promise23Searches();
        promise24();
        promise25();
        promise38();
        promise38Again();
        promise38Best();
        promise39();
    }

    // ---- 23: BECOMES

    private static void promise23() {
        test(23, "`long becomes(long meadow, int n, int what) throws IllegalArgumentException, NoSuchElementException`:", () -> {
            BeastRules x = Kit.of("rule a to b");
            due("both: the one told first", ARGUMENT, () -> x.becomes(0, 1, 4));
            due("both: the one told first", ARGUMENT, () -> x.becomes(8, 41, -1));
            due("another what alone", ELEMENT, () -> x.becomes(8, 40, 4));
        });
        test(23, "BECOMES what 0 how many, 1 the greatest number of BEASTS, 2 how many SETTLED ones, 3 the least CODE of these (NONE); -3.", () -> {
            BeastRules x = Kit.of("rule a to b;rule a to ccc;rule ccc to .;field a");
            // a; b, ccc; and none.
            due("how many", 4, () -> x.becomes(8, 40, 0));
            due("the most BEASTS", 3, () -> x.becomes(8, 40, 1));
            due("SETTLED", 2, () -> x.becomes(8, 40, 2));
            due("the least of these", 1, () -> x.becomes(8, 40, 3));
            due("within 1", 9, () -> x.becomes(8, 1, 3));
            due("none is SETTLED within 0", NONE, () -> x.becomes(8, 0, 3));
            due("none is SETTLED within 0", 0, () -> x.becomes(8, 0, 2));
            for (int i = 0; i < 4; i++) {
                int what = i;
                due("too many, what " + what, MANY, () -> Machines.tooMany().becomes(c(a(11)), 6, what));
            }
            due("no FIELD changes", 8, () -> x.field(0));
        });
        test(23, "IllegalArgumentException: the CODE, or N; NoSuchElementException: another what.", () -> {
            BeastRules x = Kit.of("rule a to b");
            for (long none : NO_CODES) {
                due("CODE " + none, ARGUMENT, () -> x.becomes(none, 1, 0));
            }
            for (int none : new int[] {-1, 41, Integer.MIN_VALUE, Integer.MAX_VALUE}) {
                due("N " + none, ARGUMENT, () -> x.becomes(8, none, 0));
            }
            due("what 4", ELEMENT, () -> x.becomes(8, 1, 4));
            for (int far : FAR) {
                due("what " + far, ELEMENT, () -> x.becomes(8, 1, far));
            }
            due("another what, though there are too many", ELEMENT, () -> Machines.tooMany().becomes(c(a(11)), 6, 4));
        });
    }

    private static void promise23Within() {
        test(23, "BECOMES within N STEPS (0 to 40): how many unlike MEADOWS (itself, too); the greatest number of BEASTS of any; how many of these are SETTLED; the least CODE of these SETTLED ones (none: NONE).", () -> {
            BeastRules x = Kit.of("rule a to aa");
            due("0: itself", 1, () -> x.becomes(8, 0, 0));
            due("1: two", 2, () -> x.becomes(8, 1, 0));
            due("18: 19 of them", 19, () -> x.becomes(8, 18, 0));
            due("19: 20 of them", 20, () -> x.becomes(8, 19, 0));
            due("40: no more", 20, () -> x.becomes(8, 40, 0));
            due("the most BEASTS", 20, () -> x.becomes(8, 40, 1));
            due("of 18 the most BEASTS", 19, () -> x.becomes(8, 18, 1));
            due("20 BEASTS are SETTLED", 1, () -> x.becomes(8, 40, 2));
            due("20 BEASTS are SETTLED", c(a(20)), () -> x.becomes(8, 40, 3));
            due("19 are not", 0, () -> x.becomes(8, 18, 2));
            due("of none", 1, () -> x.becomes(1, 40, 0));
            due("of none", 0, () -> x.becomes(1, 40, 1));
            due("of none", 1, () -> x.becomes(1, 40, 2));
            due("of none", 1, () -> x.becomes(1, 40, 3));
            BeastRules row = Kit.of(Machines.ROW);
            long from = c(Machines.row(0, 5));
            due("39 STEPS in a row", 40, () -> row.becomes(from, 39, 0));
            due("40 STEPS in a row", 41, () -> row.becomes(from, 40, 0));
            due("none of them is SETTLED", NONE, () -> row.becomes(from, 40, 3));
            due("itself has the most BEASTS", 4, () -> Kit.of("rule a to .").becomes(c("aaaa"), 3, 1));
            due("behind a greater search", 2, () -> {
                BeastRules y = Kit.of("rule a to b");
                y.becomes(c(a(10)), 40, 0);
                y.becomes(c(a(20)), 40, 0);
                return y.becomes(c("a"), 40, 0);
            });
        });
        test(23, "how many of these are SETTLED; the least CODE of these SETTLED ones (none: NONE).", () -> {
            // SETTLED is what no STEP by WAY can go on from.
            BeastRules all = Kit.of("rule a to aa;first all");
            due("all: 11 to 20 of them are", 10, () -> all.becomes(c(a(10)), 40, 2));
            due("all: 11 is the least", c(a(11)), () -> all.becomes(c(a(10)), 40, 3));
            BeastRules left = Kit.of("rule a to aa;first left");
            due("left: 20 alone is", 1, () -> left.becomes(c(a(10)), 40, 2));
            due("the least CODE", c("b"), () -> Kit.of("rule a to d;rule a to b;rule a to cc").becomes(8, 1, 3));
            due("an empty one is the least", 1, () -> Kit.of("rule a to b;rule a to .").becomes(8, 1, 3));
        });
    }

    private static void promise23Searches() {
        test(23, "SEARCHES (by any RULE at any PLACE that fits, whatever WAY) go on STEP by STEP from all MEADOWS that are come to:", () -> {
            for (String way : new String[] {"left", "right", "rule", "all"}) {
                BeastRules x = Kit.of("rule a to b;rule a to c;first " + way);
                due(way + ": of aa in one STEP", 5, () -> x.becomes(c("aa"), 1, 0));
                due(way + ": of aa in two STEPS", 9, () -> x.becomes(c("aa"), 2, 0));
                due(way + ": of 20", 41, () -> x.becomes(c(a(20)), 1, 0));
            }
            BeastRules law = Kit.of("rule a to b;rule a to c", "bar if place > 0 or rule > 0");
            due("by THE LAW", 2, () -> law.becomes(c("aaa"), 40, 0));
            due("not past 20 BEASTS", 1, () -> Kit.of("rule a to bb").becomes(c(a(20)), 40, 0));
        });
        test(23, "if those that are come to in so many STEPS as it takes, or N (that at first, too), are more than 1500 unlike ones: -3.", () -> {
            long from = c(a(11));
            due("1500", 1500, () -> Machines.most().becomes(from, 6, 0));
            due("1501", MANY, () -> Machines.tooMany().becomes(from, 6, 0));
            due("1501 not come to", 1025, () -> Machines.tooMany().becomes(from, 5, 0));
            due("1500: what 1", 11, () -> Machines.most().becomes(from, 6, 1));
        });
        test(24, "if those that are come to in so many STEPS as it takes, or N (that at first, too), are more than 1500 unlike ones: -3.", () -> {
            long from = c(a(11));
            long to = c("d" + a(7));
            due("1500", 6, () -> Machines.most().fewest(from, to));
            due("1501", MANY, () -> Machines.tooMany().fewest(from, to));
            due("as many as it takes", 5, () -> Machines.tooMany().fewest(from, c("c" + a(7))));
            due("1500 and more, and never", MANY, () -> Machines.most().fewest(from, c("hh")));
        });
        test(25, "(-3 by what either comes to in N STEPS):", () -> {
            long from = c(a(11));
            due("1500 and 1", NONE, () -> Machines.most().meets(from, 15, 6, false));
            due("1 and 1500", NONE, () -> Machines.most().meets(15, from, 6, true));
            due("1501 and 1", MANY, () -> Machines.tooMany().meets(from, 15, 6, false));
            due("1 and 1501", MANY, () -> Machines.tooMany().meets(15, from, 6, true));
            due("though they are one at once", MANY, () -> Machines.tooMany().meets(from, from, 6, false));
            due("1500 each", 0, () -> Machines.most().meets(from, from, 6, false));
            due("1501 are not come to", 0, () -> Machines.tooMany().meets(from, from, 5, false));
        });
        test(38, "(-3 as SEARCHES, by N.)", () -> {
            long from = c(a(11));
            due("1500", 0, () -> Machines.most().drovers(from, 6));
            due("1501", MANY, () -> Machines.tooMany().drovers(from, 6));
            due("1501 are not come to", 0, () -> Machines.tooMany().drovers(from, 5));
        });
        test(39, "(-3 as SEARCHES, by N.)", () -> {
            long from = c(a(11));
            due("1500", 0, () -> Machines.most().best(from, 6));
            due("1501", MANY, () -> Machines.tooMany().best(from, 6));
            due("1501 are not come to", 0, () -> Machines.tooMany().best(from, 5));
        });
    }

    // ---- 24: FEWEST

    private static void promise24() {
        test(24, "`int fewest(long from, long to) throws IllegalArgumentException`: FEWEST; NONE; -3. IllegalArgumentException.", () -> {
            BeastRules x = Kit.of("rule a to b");
            for (long none : NO_CODES) {
                due("from " + none, ARGUMENT, () -> x.fewest(none, 8));
                due("to " + none, ARGUMENT, () -> x.fewest(8, none));
                due("both " + none, ARGUMENT, () -> x.fewest(none, none));
            }
        });
        test(24, "FEWEST from a MEADOW to another one: STEPS by any order; NONE, if it cannot be.", () -> {
            BeastRules x = Kit.of("rule a to b;rule b to c;rule aa to c;first all");
            due("itself", 0, () -> x.fewest(8, 8));
            due("an empty one", 0, () -> x.fewest(1, 1));
            due("to an empty one", NONE, () -> x.fewest(8, 1));
            due("from an empty one", NONE, () -> x.fewest(1, 8));
            due("one", 1, () -> x.fewest(c("aa"), c("ab")));
            due("two", 2, () -> x.fewest(c("aa"), c("bb")));
            due("four", 4, () -> x.fewest(c("aa"), c("cc")));
            due("the fewer of two ways", 1, () -> x.fewest(c("aa"), c("c")));
            due("not back", NONE, () -> x.fewest(c("b"), c("a")));
            BeastRules sort = Kit.of("rule ba to ab");
            due("36 STEPS", 36, () -> sort.fewest(c("bbbbbbaaaaaa"), c("aaaaaabbbbbb")));
            due("never, of 924", NONE, () -> sort.fewest(c("bbbbbbaaaaaa"), c("h")));
        });
        test(24, "STEPS by any order; NONE, if it cannot be.", () -> {
            // In a row each STEP comes to one MEADOW more: 1500 of them in 1499 STEPS.
            BeastRules row = Kit.of(Machines.ROW + ";field " + Machines.row(0, 9));
            long from = row.field(0);
            for (int i = 0; i < 7; i++) {
                row.run(0, 200);
            }
            row.run(0, 98);
            due("1498 STEPS", 1498, () -> row.fewest(from, row.field(0)));
            row.run(0, 1);
            due("1499 STEPS", 1499, () -> row.fewest(from, row.field(0)));
            row.run(0, 1);
            due("1500 STEPS come to 1501", MANY, () -> row.fewest(from, row.field(0)));
            due("44 STEPS", 44, () -> row.fewest(from, c(Machines.row(12, 9))));
            due("never, of too many", MANY, () -> row.fewest(from, 1));
            due("never, of a few", NONE, () -> row.fewest(c(Machines.row(500, 9)), from));
        });
    }

    // ---- 25: MEETS

    private static void promise25() {
        test(25, "`long meets(long one, long other, int n, boolean where) throws IllegalArgumentException`:", () -> {
            BeastRules x = Kit.of("rule a to b");
            for (long none : NO_CODES) {
                due("one " + none, ARGUMENT, () -> x.meets(none, 8, 1, true));
                due("other " + none, ARGUMENT, () -> x.meets(8, none, 1, false));
            }
            for (int none : new int[] {-1, 13, Integer.MIN_VALUE, Integer.MAX_VALUE}) {
                due("N " + none, ARGUMENT, () -> x.meets(8, 8, none, true));
                due("N " + none, ARGUMENT, () -> x.meets(8, 8, none, false));
            }
        });
        test(25, "MEETS: STEPS together (where false), or the CODE; NONE; -3. IllegalArgumentException.", () -> {
            BeastRules x = Kit.of("rule a to c;rule b to c");
            due("STEPS", 2, () -> x.meets(c("a"), c("b"), 12, false));
            due("the CODE", c("c"), () -> x.meets(c("a"), c("b"), 12, true));
            due("NONE", NONE, () -> x.meets(c("a"), c("d"), 12, false));
            due("NONE", NONE, () -> x.meets(c("a"), c("d"), 12, true));
            due("empty ones", 0, () -> x.meets(1, 1, 0, false));
            due("empty ones", 1, () -> x.meets(1, 1, 12, true));
        });
        test(25, "MEETS of two MEADOWS within N (0 to 12) STEPS each", () -> {
            BeastRules x = Kit.of("rule a to .;rule b to .");
            due("12 and 12", 24, () -> x.meets(c(a(12)), c("b".repeat(12)), 12, false));
            due("13 and 0", NONE, () -> x.meets(c(a(13)), 1, 12, false));
            due("0 and 13", NONE, () -> x.meets(1, c(a(13)), 12, false));
            due("12 and 0", 12, () -> x.meets(c(a(12)), 1, 12, false));
            due("1 and 1, within 1 each", 2, () -> x.meets(8, 9, 1, false));
            due("within 0", NONE, () -> x.meets(8, 9, 0, false));
            due("one at once, within 0", 0, () -> x.meets(8, 8, 0, false));
            due("one at once, within 0", 8, () -> x.meets(8, 8, 0, true));
        });
        test(25, "the fewest STEPS of both together behind which both are one MEADOW; the least CODE of such; NONE.", () -> {
            BeastRules x = Kit.of("rule a to h;rule a to g;rule b to h;rule b to g");
            BeastRules y = Kit.of("rule a to g;rule a to h;rule b to g;rule b to h");
            due("of two the least, come to first", c("g"), () -> y.meets(c("a"), c("b"), 12, true));
            due("of two the least", c("g"), () -> x.meets(c("a"), c("b"), 12, true));
            due("2 together", 2, () -> x.meets(c("a"), c("b"), 12, false));
            // b is come to from c in one STEP; all others are farther away.
            due("the fewest ahead of the least", c("b"), () -> Kit.of("rule c to b;rule b to a").meets(c("c"), c("b"), 12, true));
            due("1 together", 1, () -> Kit.of("rule c to b;rule b to a").meets(c("c"), c("b"), 12, false));
            // 1 and 3 together are as many as 2 and 2: the least CODE of both.
            BeastRules even = Kit.of("rule a to g;rule b to c;rule c to d;rule d to g;rule a to e;rule e to f;rule c to f");
            due("4 together", 4, () -> even.meets(c("a"), c("b"), 12, false));
            due("the least of these", c("f"), () -> even.meets(c("a"), c("b"), 12, true));
        });
    }

    // ---- 38, 39: DROVERS, BEST

    private static void promise38() {
        test(38, "`int drovers(long meadow, int n) throws IllegalArgumentException`: DROVERS; -3. IllegalArgumentException: the CODE, or N.", () -> {
            BeastRules x = Kit.of("rule a to .");
            for (long none : NO_CODES) {
                due("CODE " + none, ARGUMENT, () -> x.drovers(none, 1));
            }
            for (int none : new int[] {-1, 0, 9, Integer.MIN_VALUE, Integer.MAX_VALUE}) {
                due("N " + none, ARGUMENT, () -> x.drovers(8, none));
            }
            due("N 1", 0, () -> x.drovers(8, 1));
            due("N 8", 1, () -> x.drovers(8, 8));
        });
        test(38, "DROVERS: two use a RULE at a PLACE that fits by turns; who cannot go on loses;", () -> {
            BeastRules x = Kit.of("rule a to .;first all");
            due("nobody can go on at once", -1, () -> x.drovers(c("b"), 1));
            due("nor of an empty MEADOW", -1, () -> x.drovers(1, 8));
            for (int i = 1; i <= 7; i++) {
                int many = i;
                due(many + " turns", many % 2 == 1 ? 1 : -1, () -> x.drovers(c(a(many)), 8));
            }
            due("by THE LAW", 1, () -> Kit.of("rule a to .", "bar if long < 3").drovers(c(a(3)), 8));
        });
        test(38, "behind N (1 to 8) turns nobody has won (also if nobody could go on then):", () -> {
            BeastRules x = Kit.of("rule a to .");
            for (int i = 1; i <= 8; i++) {
                int many = i;
                due(many + " turns of " + many, 0, () -> x.drovers(c(a(many)), many));
                due(many + " turns of " + (many - 1), many % 2 == 0 ? 1 : -1, () -> x.drovers(c(a(many - 1)), many));
            }
            due("for ever", 0, () -> Kit.of("rule a to a").drovers(8, 8));
        });
        test(38, "1 the first wins, -1 the second, 0 nobody, if each plays best (winning ahead of nobody, that ahead of losing).", () -> {
            // Who is left three of them loses.
            BeastRules nim = Kit.of("rule a to .;rule aa to .");
            for (int i = 1; i <= 7; i++) {
                int many = i;
                due(many + " of them", many % 3 == 0 ? -1 : 1, () -> nim.drovers(c(a(many)), 8));
            }
            due("nobody ahead of losing", 0, () -> Kit.of("rule a to b;rule b to d;rule a to c;rule c to c").drovers(8, 8));
            due("nobody ahead of losing", 0, () -> Kit.of("rule a to c;rule c to c;rule a to b;rule b to d").drovers(8, 8));
            due("winning ahead of nobody", 1, () -> Kit.of("rule a to c;rule c to c;rule a to d").drovers(8, 8));
            due("losing, if there is nothing else", -1, () -> Kit.of("rule a to b;rule b to d;rule a to c;rule c to d").drovers(8, 8));
            due("the other one plays best, too", 0, () -> Kit.of("rule a to b;rule b to c;rule c to d;rule b to e;rule e to e").drovers(8, 8));
        });
    }

    private static void promise38Again() {
        test(38, "if each plays best", () -> {
            // Of a game that was played ahead of it nothing is left.
            BeastRules x = Kit.of("rule a to .;rule b to b");
            for (int times = 0; times < 2; times++) {
                due("one turn: nobody yet", 0, () -> x.drovers(c("aa"), 1));
                due("two of them", -1, () -> x.drovers(c("aa"), 8));
                due("three of them", 1, () -> x.drovers(c("aaa"), 8));
                due("one turn of three", 0, () -> x.drovers(c("aaa"), 1));
                due("for ever", 0, () -> x.drovers(c("b"), 8));
                due("one turn: the first of all", 100, () -> x.best(c("ca"), 1));
            }
        });
        test(39, "BEST: the first turn by which one does best:", () -> {
            // From b one can but go back to a, and from there d wins.
            due("by a detour", 0, () -> Kit.of("rule a to b;rule b to a;rule a to d").best(8, 8));
            due("no time for it", 2, () -> Kit.of("rule a to b;rule b to a;rule a to d").best(8, 3));
            due("time for it", 0, () -> Kit.of("rule a to b;rule b to a;rule a to d").best(8, 4));
        });
    }

    private static void promise38Best() {
        test(39, "BEST: the first turn by which one does best: 100 times the PLACE and the RULE (by PLACE, then RULE); NONE, if there is none.", () -> {
            BeastRules nim = Kit.of("rule a to .;rule aa to .");
            due("take one of four", 0, () -> nim.best(c(a(4)), 8));
            due("take two of five", 1, () -> nim.best(c(a(5)), 8));
            due("all lose: the first of all", 0, () -> nim.best(c(a(3)), 8));
            due("none", NONE, () -> nim.best(c("b"), 8));
            due("none of an empty MEADOW", NONE, () -> nim.best(1, 1));
            due("one turn: the first of all", 0, () -> nim.best(c(a(5)), 1));
            BeastRules far = Kit.of("rule h to h" + ";rule h to h".repeat(10) + ";rule a to .");
            due("the last RULE at the last PLACE", 1911, () -> far.best(c("b".repeat(19) + "a"), 8));
            due("the last RULE at the first PLACE", 11, () -> far.best(c("a" + "b".repeat(19)), 8));
            due("by PLACE ahead of RULE", 1, () -> Kit.of("rule b to c;rule a to c").best(c("ab"), 8));
            due("by RULE at one PLACE", 100, () -> Kit.of("rule a to b;rule a to c").best(c("ca"), 8));
            due("a later PLACE that wins", 101, () -> Kit.of("rule ca to ca;rule ab to d").best(c("cab"), 8));
            due("a later RULE that wins", 1, () -> Kit.of("rule a to a;rule ab to d").best(c("ab"), 8));
            String losing = "rule a to b;rule b to d";
            due("losing", 0, () -> Kit.of(losing).best(8, 8));
            due("nobody ahead of losing", 2, () -> Kit.of(losing + ";rule a to c;rule c to c").best(8, 8));
            due("winning ahead of both", 4, () -> Kit.of(losing + ";rule a to c;rule c to c;rule a to e").best(8, 8));
            due("the first of two that win", 4, () -> Kit.of(losing + ";rule a to c;rule c to c;rule a to e;rule a to f").best(8, 8));
        });
    }

    private static void promise39() {
        test(39, "`int best(long meadow, int n) throws IllegalArgumentException`: BEST; NONE; -3. IllegalArgumentException likewise.", () -> {
            BeastRules x = Kit.of("rule a to .;field a");
            for (long none : NO_CODES) {
                due("CODE " + none, ARGUMENT, () -> x.best(none, 1));
            }
            for (int none : new int[] {-1, 0, 9, Integer.MIN_VALUE, Integer.MAX_VALUE}) {
                due("N " + none, ARGUMENT, () -> x.best(8, none));
            }
            due("N 1", 0, () -> x.best(8, 1));
            due("N 8", 0, () -> x.best(8, 8));
            due("no FIELD changes", 8, () -> x.field(0));
            due("no act", 0, () -> x.count(10));
        });
    }
}

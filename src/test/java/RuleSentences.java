/** The sentences of promises 26 to 31, 35 to 37 and 40: what can be told of RULES by looking at them. */
final class RuleSentences extends Sentences {
    static void tests() {
        promise26();
        promise26Within();
        promise26Unlike();
        promise27();
        promise28();
        promise28Weights();
        weighedAnew();
        promise29();
        promise30();
        promise31();
        promise35();
        promise36();
        promise37();
        promise37First();
        promise40();
    }

    // ---- 26: OVERLAPS

    /** How many OVERLAPS the RULES have, how many are UNLIKE, and the first word of these. */
    private static void overlaps(String rules, int many, int unlike, String word) {
        BeastRules x = Kit.of(rules);
        // What was looked at ahead of it leaves nothing behind.
        for (int times = 0; times < 2; times++) {
            due(rules + ": how many", many, () -> x.overlaps(0));
            due(rules + ": UNLIKE", unlike, () -> x.overlaps(1));
            due(rules + ": the word", word.isEmpty() ? NONE : c(word), () -> x.overlaps(2));
        }
    }

    private static void promise26() {
        test(26, "`long overlaps(int what) throws NoSuchElementException`:", () -> {
            BeastRules x = Kit.of("rule aa to b");
            due("what 3", ELEMENT, () -> x.overlaps(3));
            for (int far : FAR) {
                due("what " + far, ELEMENT, () -> x.overlaps(far));
            }
        });
        test(26, "OVERLAPS what 0 how many, 1 how many UNLIKE ones, 2 the CODE of the first of these (NONE). NoSuchElementException: another what.", () -> {
            BeastRules none = new BeastRules();
            due("no RULES", 0, () -> none.overlaps(0));
            due("no RULES", 0, () -> none.overlaps(1));
            due("no RULES", NONE, () -> none.overlaps(2));
            overlaps("rule ab to c;rule ba to c", 2, 2, "aba");
            overlaps("rule aa to a", 1, 0, "");
            // 12 RULES alike: each with each other one, and with itself none.
            BeastRules twelve = Kit.of("rule a to b" + ";rule a to b".repeat(11));
            due("12 times 11", 132, () -> twelve.overlaps(0));
            due("all alike", 0, () -> twelve.overlaps(1));
            BeastRules long12 = Kit.of("rule aaaa to a" + ";rule aaaa to a".repeat(11));
            due("144 times 3, and 132", 564, () -> long12.overlaps(0));
        });
        test(26, "==== 3. OVERLAPS: of RULES P and Q (P may be Q): words of BEASTS: LEFT of P whose last K BEASTS are the first K of LEFT of Q, that behind it (K 1 at least, below the number of BEASTS of each; by P, then Q, then K);", () -> {
            overlaps("rule a to b", 0, 0, "");
            overlaps("rule ab to c", 0, 0, "");
            overlaps("rule aba to c", 1, 1, "ababa");
            overlaps("rule aaaa to b", 3, 3, "aaaaaaa");
            overlaps("rule abab to c", 1, 1, "ababab");
            overlaps("rule ab to c;rule bc to c", 1, 1, "abc");
            overlaps("rule abcd to e;rule dabc to e", 2, 2, "abcdabc");
            // A whole LEFT is no K: it stands within.
            overlaps("rule ab to c;rule b to d", 1, 1, "ab");
            overlaps("rule a to c;rule ab to d", 1, 1, "ab");
            overlaps("rule ab to c;rule bca to d", 2, 2, "abca");
            overlaps("rule bca to d;rule ab to c", 2, 2, "bcab");
            overlaps("rule aab to c;rule bd to e", 1, 1, "aabd");
            overlaps("rule abb to c;rule bbd to e", 2, 2, "abbbd");
        });
    }

    private static void promise26Within() {
        test(26, "and LEFT of P in which LEFT of Q stands at a PLACE within (P not Q; by P, Q, then that PLACE; counted behind all the others).", () -> {
            overlaps("rule abcd to e;rule bc to f", 1, 1, "abcd");
            overlaps("rule abcd to e;rule d to f", 1, 1, "abcd");
            overlaps("rule abcd to e;rule abcd to f", 2, 2, "abcd");
            overlaps("rule a to e;rule a to e", 2, 0, "");
            overlaps("rule abab to e;rule ab to e", 3, 2, "abab");
            overlaps("rule b to e;rule aba to f", 2, 2, "ababa");
            overlaps("rule b to e;rule caba to f;rule cc to g", 3, 3, "ccaba");
            // Of one word at several PLACES: each counts.
            due("by K 1 to 3, and at four PLACES", 7, () -> Kit.of("rule bbbb to b;rule b to c").overlaps(0));
            // Those within come behind, though their P is less.
            overlaps("rule bcd to e;rule c to f;rule gh to a;rule hg to b", 3, 3, "ghg");
        });
        test(26, "Each gives two MEADOWS, by P and by Q (THE LAW not looked at).", () -> {
            BeastRules x = Kit.of("rule ab to c;rule bd to e", "bar");
            due("barred for all that", 1, () -> x.overlaps(0));
            due("UNLIKE for all that", 1, () -> x.overlaps(1));
            due("the word for all that", c("abd"), () -> x.overlaps(2));
            // Also behind calls that look at THE LAW and go by another WAY: by left gf becomes d, by right ge.
            BeastRules y = Kit.of("first right;rule ab to c;rule bd to e;rule h to gf;rule h to d;rule f to e;rule gf to d", "bar if rule > 4");
            due("by right, and barred", c("ge"), () -> y.settles(c("h"), 9, true));
            due("abd, h twice, and gf", 4, () -> y.overlaps(0));
            due("abd, and gf", 2, () -> y.overlaps(1));
            due("by right, and barred", c("ge"), () -> y.settles(c("h"), 9, true));
            due("the first", c("abd"), () -> y.overlaps(2));
            // And behind one that leaves RULES 0 to 7 out: a becomes bc and d.
            BeastRules z = Kit.of("rule a to bc;rule a to d;rule bc to d" + ";rule e to f".repeat(5) + ";rule g to g;field g");
            due("none of these helps", NONE, () -> z.dropped(1));
            due("they are not left out", 0, () -> z.overlaps(1));
            due("none of these helps", NONE, () -> z.dropped(1));
            due("they are not left out", NONE, () -> z.complete());
            // ababa becomes cba by P, and abc by Q at its own PLACE; both become d.
            overlaps("rule aba to c;rule cba to d;rule abc to d", 5, 4, "ababc");
        });
    }

    private static void promise26Unlike() {
        test(26, "It is UNLIKE, if these do not settle (by left, THE LAW not looked at, within 100 STEPS) to one MEADOW (also if one does not):", () -> {
            overlaps("rule a to b;rule a to c", 2, 2, "a");
            overlaps("rule a to b;rule a to c;rule c to b", 2, 0, "");
            overlaps("rule a to b;rule a to c;rule c to c", 2, 2, "a");
            overlaps("rule a to c;rule a to b;rule c to c", 2, 2, "a");
            overlaps("rule a to c;rule a to c;rule c to c", 2, 2, "a");
            for (String way : new String[] {"left", "right", "rule", "all"}) {
                // By left bc becomes d, by right and by rule be.
                overlaps("first " + way + ";rule a to bc;rule a to d;rule c to e;rule bc to d", 3, 1, "bc");
                // By left bc becomes fc, and then d; by all it becomes fe.
                overlaps("first " + way + ";rule a to bc;rule a to d;rule b to f;rule fc to d;rule c to e", 3, 1, "fc");
            }
        });
        test(26, "how many OVERLAPS; how many UNLIKE ones; the CODE of the first UNLIKE word.", () -> {
            overlaps("rule aa to a;rule ab to c", 2, 1, "aab");
            overlaps("rule aa to a;rule ab to c;rule ac to c", 3, 0, "");
            BeastRules x = Kit.of("rule ab to c;rule bc to d;field ab");
            x.overlaps(2);
            due("no act", 0, () -> x.count(10));
            due("no RULE", 2, () -> x.count(0));
        });
        test(26, "within 100 STEPS) to one MEADOW (also if one does not):", () -> {
            // f becomes a number that is counted down in 100 STEPS, or in 101, and a MEADOW that is settled.
            String down = "rule b to ca;rule ac to cb;rule ec to e;rule f to ehh;rule h to aaa;rule g to .;rule f to ";
            due("100", 0, () -> Kit.of(down + "edbgg;rule d to baaaa").overlaps(1));
            due("101", 2, () -> Kit.of(down + "edb;rule d to abaaa").overlaps(1));
        });
    }

    // ---- 27: COMPLETED

    private static void promise27() {
        test(27, "`int complete() throws UnsupportedOperationException`: COMPLETED: the RULE's number; NONE, and nothing happens, if there is no such one.", () -> {
            BeastRules x = Kit.of("rule ab to c;rule bd to e");
            due("its number", 2, () -> x.complete());
            due("abd becomes cd, or ae", c("cd"), () -> x.rule(2, false));
            due("abd becomes cd, or ae", c("ae"), () -> x.rule(2, true));
            String was = Kit.state(x);
            due("none more", NONE, () -> x.complete());
            due("nothing happened", was, () -> Kit.state(x));
            due("no RULES", NONE, () -> new BeastRules().complete());
            BeastRules eleven = Kit.of("rule ab to c;rule bd to e" + ";rule h to h".repeat(9));
            due("the 12th", 11, () -> eleven.complete());
        });
        test(27, "UnsupportedOperationException: there is one, and there are 12 RULES.", () -> {
            BeastRules x = Kit.of("rule ab to c;rule bd to e" + ";rule h to h".repeat(10));
            refused(x, "12 RULES", UNSUPPORTED, () -> x.complete());
            BeastRules none = Kit.of("rule a to b" + ";rule c to d".repeat(11));
            refused(none, "12 RULES, and none to be added", "-1", () -> none.complete());
            BeastRules tooLong = Kit.of("rule ab to ccccc;rule bd to e" + ";rule h to h".repeat(10));
            due("12 RULES, and one that is too long", NONE, () -> tooLong.complete());
        });
        test(27, "COMPLETED (act): for the first UNLIKE one of which both settle: a RULE more from the greater to the lesser of what they settle to (by the number of BEASTS, then CODE),", () -> {
            BeastRules act = Kit.of("rule ab to c;rule bd to e");
            act.complete();
            due("an act", 1, () -> act.count(10));
            due("that can be undone", true, () -> act.undo());
            due("that can be undone", 2, () -> act.count(0));
            // ab becomes hh, or ac: by CODE; b alone has fewer BEASTS.
            completed("rule ab to hh;rule b to c", "hh", "ac");
            completed("rule ab to aa;rule b to h", "ah", "aa");
            completed("rule ab to h;rule b to a", "aa", "h");
            completed("rule ab to aaa;rule b to h", "aaa", "ah");
            completed("rule a to .;rule a to b", "b", "");
            // The first UNLIKE one goes on for ever: aaa becomes ba, or ab.
            completed("rule aa to b;rule ab to ab;rule de to f;rule eg to h", "fg", "dh");
            // What they settle to, not what they become at first.
            completed("rule ab to c;rule bd to e;rule c to f", "fd", "ae");
            due("THE LAW is not looked at", 2, () -> Kit.of("rule ab to c;rule bd to e", "bar").complete());
            // Also behind calls that look at THE LAW, go by another WAY, and drop RULES.
            for (String way : new String[] {"right", "rule", "all"}) {
                BeastRules x = Kit.of("first " + way + ";rule a to bc;rule a to h;rule b to f;rule c to e;rule fc to d;rule a to a;rule h to h;field a",
                        "bar if rule > 1 and rule < 5");
                x.settles(8, 9, false);
                x.drop(6);
                x.dropped(1);
                x.drop(5);
                // By left bc becomes fc and d; by all others it becomes fe.
                due("by left, though it was by " + way, 5, () -> x.complete());
                due("by left, though it was by " + way, c("h"), () -> x.rule(5, false));
                due("by left, though it was by " + way, c("d"), () -> x.rule(5, true));
            }
            due("whatever WAY", 2, () -> Kit.of("rule ab to c;rule bd to e;first all").complete());
        });
        test(27, "if LEFT then has 1 to 4, RIGHT 5 BEASTS at most (else there is none).", () -> {
            completed("rule ab to hhhh;rule b to c", "hhhh", "ac");
            due("LEFT of 5", NONE, () -> Kit.of("rule ab to hhhhh;rule b to c").complete());
            due("LEFT of 5, RIGHT of 5", NONE, () -> Kit.of("rule a to hhhhh;rule a to ggggg").complete());
            completed("rule a to hhhh;rule a to gggg", "hhhh", "gggg");
            completed("rule a to h;rule a to .", "h", "");
            // The second UNLIKE one would be short enough.
            due("the first alone counts", NONE, () -> Kit.of("rule ab to hhhhh;rule bc to .;rule de to f;rule eg to h").complete());
        });
    }

    private static void completed(String rules, String left, String right) {
        BeastRules x = Kit.of(rules);
        int number = x.count(0);
        due(rules, number, () -> x.complete());
        due(rules + ": LEFT", left, () -> Kit.letters(x.rule(number, false)));
        due(rules + ": RIGHT", right, () -> Kit.letters(x.rule(number, true)));
    }

    // ---- 28: NEVER

    private static void promise28() {
        test(28, "`int never(long from, long to, int beast) throws IllegalArgumentException, IndexOutOfBoundsException`:", () -> {
            BeastRules x = Kit.of("rule a to b");
            due("both: the one told first", ARGUMENT, () -> x.never(0, 8, 8));
            due("both: the one told first", ARGUMENT, () -> x.never(8, 0, -2));
            due("no such BEAST", INDEX, () -> x.never(8, 8, 8));
            due("no such BEAST", INDEX, () -> x.never(8, 8, -2));
            for (int far : FAR) {
                Object want = far == NONE ? NONE : INDEX;
                due("BEAST " + far, want, () -> x.never(8, 8, far));
            }
            BeastRules seven = Kit.of("rule abcd to efg");
            due("no such BEAST, though there are seven", INDEX, () -> seven.never(8, 8, 8));
        });
        test(28, "NEVER: M (beast NONE), or the weight of a BEAST; NONE; -3. IllegalArgumentException: a CODE.", () -> {
            BeastRules x = Kit.of("rule a to bb");
            for (long none : NO_CODES) {
                due("from " + none, ARGUMENT, () -> x.never(none, 8, NONE));
                due("to " + none, ARGUMENT, () -> x.never(8, none, NONE));
            }
            // b 1 and a 0 modulo 2: a and b weigh otherwise.
            due("M", 2, () -> x.never(c("a"), c("b"), NONE));
            due("a", 0, () -> x.never(c("a"), c("b"), 0));
            due("b", 1, () -> x.never(c("a"), c("b"), 1));
            due("h", 0, () -> x.never(c("a"), c("b"), 7));
            due("NONE", NONE, () -> x.never(c("a"), c("bb"), NONE));
            due("NONE", NONE, () -> x.never(c("a"), c("bb"), 0));
            due("one and the same", NONE, () -> x.never(c("a"), c("a"), NONE));
            due("nothing at all", NONE, () -> new BeastRules().never(1, 1, NONE));
        });
        test(28, "NONE; -3, if there are more than 6 such BEASTS.", () -> {
            BeastRules six = Kit.of("rule abc to def");
            due("six of RULES", 2, () -> six.never(c("a"), 1, NONE));
            due("a seventh of the one", MANY, () -> six.never(c("g"), 1, NONE));
            due("a seventh of the other", MANY, () -> six.never(1, c("h"), NONE));
            due("a seventh of the other", MANY, () -> six.never(1, c("h"), 7));
            due("seven of RULES", MANY, () -> Kit.of("rule abc to def;rule g to .").never(1, 1, NONE));
            due("eight", MANY, () -> Kit.of("rule abcd to efgh").never(1, 1, NONE));
            due("six of two MEADOWS alone", 2, () -> new BeastRules().never(c("abc"), c("fgh"), NONE));
            due("seven of two MEADOWS alone", MANY, () -> new BeastRules().never(c("abcd"), c("fgh"), NONE));
        });
    }

    private static void promise28Weights() {
        test(28, "NEVER: weights modulo M (2 to 5) of the BEASTS that stand in RULES or in two told MEADOWS (each 0 to M less 1; others 0) by which each RULE's both sides weigh alike, but the two MEADOWS do not:", () -> {
            due("modulo 2", 2, () -> Kit.of("rule aa to .").never(c("a"), 1, NONE));
            due("modulo 3", 3, () -> Kit.of("rule aaa to .").never(c("a"), 1, NONE));
            due("modulo 4", 4, () -> Kit.of("rule aaaa to .").never(c("aa"), 1, NONE));
            // b weighs as 3 a, and a as 2 b.
            due("modulo 5", 5, () -> Kit.of("rule b to aaa;rule bb to a").never(c("a"), 1, NONE));
            due("modulo 5: a", 1, () -> Kit.of("rule b to aaa;rule bb to a").never(c("a"), 1, 0));
            due("modulo 5: b", 3, () -> Kit.of("rule b to aaa;rule bb to a").never(c("a"), 1, 1));
            // b weighs as 4 a, and a as 2 b: modulo 7 alone.
            due("modulo 7 is too much", NONE, () -> Kit.of("rule b to aaaa;rule bb to a").never(c("a"), 1, NONE));
            due("b weighs as 3 a modulo 4", 4, () -> Kit.of("rule aaaa to .;rule b to aaa").never(c("aa"), 1, NONE));
            due("the greatest weight", 3, () -> Kit.of("rule aaaa to .;rule b to aaa").never(c("aa"), 1, 1));
            due("every RULE, the last one, too", NONE, () -> Kit.of("rule b to b" + ";rule b to b".repeat(10) + ";rule a to .").never(c("a"), 1, NONE));
            due("more on the RIGHT than on the LEFT", 2, () -> Kit.of("rule a to bbb").never(c("b"), 1, NONE));
            due("more of the other MEADOW", 2, () -> new BeastRules().never(1, c(a(19)), NONE));
            due("20 of them", 3, () -> new BeastRules().never(1, c(a(20)), NONE));
        });
        test(28, "the first (the least M; then by the weights of a, b, ..): M; the weight of a BEAST;", () -> {
            BeastRules x = Kit.of("rule ab to ba");
            due("a as little as can be", 0, () -> x.never(c("ab"), c("aabb"), 0));
            due("then b", 1, () -> x.never(c("ab"), c("aabb"), 1));
            due("M", 2, () -> x.never(c("ab"), c("aabb"), NONE));
            due("of several a the least", 1, () -> Kit.of("rule h to h").never(c("a"), c("aaa"), 0));
            due("of several M the least", 3, () -> Kit.of("rule h to h").never(c("a"), c("aaa"), NONE));
            due("all of these", 0, () -> new BeastRules().never(c("fff"), c("ga"), 0));
            due("all of these", 0, () -> new BeastRules().never(c("fff"), c("ga"), 5));
            due("all of these", 1, () -> new BeastRules().never(c("fff"), c("ga"), 6));
        });
    }

    private static void weighedAnew() {
        test(28, "(each 0 to M less 1; others 0)", () -> {
            // Of what was weighed ahead of it nothing is left.
            BeastRules x = Kit.of("rule bcd to e");
            due("abcde and f", 2, () -> x.never(c("aaa"), c("ff"), NONE));
            due("a", 1, () -> x.never(c("aaa"), c("ff"), 0));
            due("others", 0, () -> x.never(c("aaa"), c("ff"), 7));
            due("g and h, of six", 2, () -> x.never(c("h"), c("g"), NONE));
            due("seven", MANY, () -> x.never(c("h"), c("ga"), NONE));
            due("g, h of six", 1, () -> x.never(c("h"), c("g"), 7));
            due("a is none of these", 0, () -> x.never(c("h"), c("g"), 0));
            due("falls behind that", 1, () -> x.falls(1, NONE));
            due("0 is no weight of FALLS", 1, () -> x.falls(1, 4));
            due("others of FALLS", 0, () -> x.falls(1, 7));
            due("0 is a weight of NEVER", 0, () -> x.never(c("h"), c("g"), 6));
            x.drop(0);
            x.add(c("a"), c("a"));
            due("another RULE: it does not fall", 0, () -> x.falls(5, NONE));
            x.drop(0);
            x.add(c("a"), c("b"));
            due("another RULE: a and b weigh alike", NONE, () -> x.never(c("a"), c("b"), NONE));
            due("another RULE: it falls", 2, () -> x.falls(5, 0));
        });
    }

    // ---- 29: FALLS

    private static void promise29() {
        test(29, "`int falls(int w, int beast) throws IllegalArgumentException, IndexOutOfBoundsException`:", () -> {
            BeastRules x = Kit.of("rule aa to a");
            due("both: the one told first", ARGUMENT, () -> x.falls(0, 8));
            due("both: the one told first", ARGUMENT, () -> x.falls(6, -2));
            due("no such BEAST", INDEX, () -> x.falls(1, 8));
            due("no such BEAST", INDEX, () -> x.falls(1, -2));
            for (int far : FAR) {
                Object want = far == NONE ? 1 : INDEX;
                due("BEAST " + far, want, () -> x.falls(1, far));
            }
            due("no such BEAST, though there are seven", INDEX, () -> Kit.of("rule abcd to efg").falls(1, 8));
        });
        test(29, "FALLS: 1 or 0 (beast NONE), or the weight of a BEAST (NONE without); -3. IllegalArgumentException: W is none.", () -> {
            BeastRules x = Kit.of("rule b to a");
            for (int none : new int[] {-1, 0, 6, Integer.MIN_VALUE, Integer.MAX_VALUE}) {
                due("W " + none, ARGUMENT, () -> x.falls(none, NONE));
            }
            due("W 1", 0, () -> x.falls(1, NONE));
            due("W 1", NONE, () -> x.falls(1, 0));
            due("W 1, a BEAST of no RULE", NONE, () -> x.falls(1, 7));
            due("W 2", 1, () -> x.falls(2, NONE));
            due("W 2: a", 1, () -> x.falls(2, 0));
            due("W 2: b", 2, () -> x.falls(2, 1));
            due("W 2: others", 0, () -> x.falls(2, 7));
            due("no RULES", 1, () -> new BeastRules().falls(1, NONE));
            due("no RULES", 0, () -> new BeastRules().falls(5, 0));
        });
        test(29, "FALLS: weights 1 to W (1 to 5) of the BEASTS that stand in RULES (others 0) by which LEFT of each RULE weighs more than RIGHT: the first (by a, b, ..): whether; the weight of a BEAST;", () -> {
            String five = "rule e to d;rule d to c;rule c to b;rule b to a";
            due("5 in a row by W 5", 1, () -> Kit.of(five).falls(5, NONE));
            due("5 in a row by W 5: e", 5, () -> Kit.of(five).falls(5, 4));
            due("5 in a row by W 4", 0, () -> Kit.of(five).falls(4, NONE));
            due("6 in a row by W 5", 0, () -> Kit.of(five + ";rule f to e").falls(5, NONE));
            due("as much is not more", 0, () -> Kit.of("rule a to a").falls(5, NONE));
            due("1 at least: ab is more than a", 1, () -> Kit.of("rule ab to a").falls(1, NONE));
            due("1 at least: b", 1, () -> Kit.of("rule ab to a").falls(5, 1));
            due("each RULE, the last one, too", 0, () -> Kit.of("rule aa to a" + ";rule aa to a".repeat(10) + ";rule a to aa").falls(5, NONE));
            due("the first by a", 1, () -> Kit.of("rule ab to c;rule c to a").falls(5, 0));
            due("then by b", 2, () -> Kit.of("rule ab to c;rule c to a").falls(5, 1));
            due("then by c", 2, () -> Kit.of("rule ab to c;rule c to a").falls(5, 2));
        });
        test(29, "-3, if there are more than 6 such BEASTS.", () -> {
            due("six", 1, () -> Kit.of("rule abc to de;rule f to .").falls(1, NONE));
            due("six: the sixth", 1, () -> Kit.of("rule abc to de;rule f to .").falls(1, 5));
            due("seven", MANY, () -> Kit.of("rule abc to de;rule fg to .").falls(1, NONE));
            due("seven", MANY, () -> Kit.of("rule abc to de;rule fg to .").falls(1, 0));
            due("seven, one of RIGHT alone", MANY, () -> Kit.of("rule abcd to ef;rule aa to h").falls(5, NONE));
            due("eight", MANY, () -> Kit.of("rule abcd to efgh").falls(5, NONE));
            due("more than six, though none falls", MANY, () -> Kit.of("rule a to a;rule bcde to fgh").falls(5, NONE));
        });
    }

    // ---- 30, 31: LIGHT

    private static void promise30() {
        test(30, "`int light(long meadow) throws IllegalArgumentException`: LIGHT of a MEADOW. IllegalArgumentException.", () -> {
            BeastRules x = new BeastRules();
            for (long none : NO_CODES) {
                due("CODE " + none, ARGUMENT, () -> x.light(none));
            }
        });
        test(30, "LIGHT: by told WEIGHTS how much a MEADOW weighs,", () -> {
            BeastRules x = Kit.of("weight a 0;weight b 99;weight h 7");
            due("none", 0, () -> x.light(1));
            due("20 of 99", 1980, () -> x.light(c("b".repeat(20))));
            due("20 of 0", 0, () -> x.light(c(a(20))));
            due("of 1 as at first", 20, () -> x.light(c("c".repeat(20))));
            due("a b c h", 107, () -> x.light(c("abch")));
            Kit.valley(x, "weight b 1;weight b 2");
            due("told again: the latest", 2, () -> x.light(c("b")));
        });
    }

    private static void promise31() {
        test(31, "`int loss(int rule) throws IndexOutOfBoundsException`: LIGHT of a RULE (it may be below 0).", () -> {
            BeastRules x = Kit.of("rule a to b;rule b to a;weight b 3");
            due("below 0", -2, () -> x.loss(0));
            due("above 0", 2, () -> x.loss(1));
            due("behind the last", INDEX, () -> x.loss(2));
            for (int far : FAR) {
                due("rule " + far, INDEX, () -> x.loss(far));
            }
            due("none at all", INDEX, () -> new BeastRules().loss(0));
        });
        test(31, "and how much LEFT of a RULE less RIGHT is.", () -> {
            BeastRules x = Kit.of("weight a 99;weight b 0;rule aaaa to .;rule b to aaaaa;rule ab to ba;rule aaaa to aaaaa");
            due("the most", 396, () -> x.loss(0));
            due("the least", -495, () -> x.loss(1));
            due("neither", 0, () -> x.loss(2));
            due("one more", -99, () -> x.loss(3));
        });
    }

    // ---- 35, 36: EXPLAINED, TELLING

    private static void promise35() {
        test(35, "`int explained(int seen) throws IndexOutOfBoundsException`: EXPLAINED, as bits.", () -> {
            BeastRules x = Kit.of("seen a to b;rule a to b" + ";rule a to c".repeat(10) + ";rule a to b");
            due("the first and the last of 12", 1 + 2048, () -> x.explained(0));
            due("behind the last", INDEX, () -> x.explained(1));
            for (int far : FAR) {
                due("seen " + far, INDEX, () -> x.explained(far));
            }
            due("none at all", INDEX, () -> new BeastRules().explained(0));
            due("no RULES", 0, () -> Kit.of("seen a to b").explained(0));
        });
        test(35, "EXPLAINED: RULES by which a SEEN can be (at some PLACE; THE LAW not looked at), as bits.", () -> {
            BeastRules x = Kit.of("rule a to b;rule ca to cb;rule aa to bb;seen ca to cb;seen aca to acb;seen aa to bb;seen a to a", "bar");
            due("both", 3, () -> x.explained(0));
            due("at a later PLACE", 3, () -> x.explained(1));
            due("by one use alone", 4, () -> x.explained(2));
            due("not by none", 0, () -> x.explained(3));
            BeastRules y = Kit.of("rule a to a;rule b to .;rule a to bb;rule c to ccccc;seen a to a;seen b to .;seen . to .");
            Kit.valley(y, "seen " + a(20) + " to " + a(19) + "b;seen " + a(19) + " to " + a(18) + "bb;seen " + "b".repeat(20) + " to " + "b".repeat(19)
                    + ";seen . to a;seen c" + a(15) + " to ccccc" + a(15) + ";seen c" + " to c");
            due("a to a", 1, () -> y.explained(0));
            due("b to none", 2, () -> y.explained(1));
            due("of none", 0, () -> y.explained(2));
            due("20: not a to b", 0, () -> y.explained(3));
            due("19 to 20 at the last PLACE", 4, () -> y.explained(4));
            due("20 to 19", 2, () -> y.explained(5));
            due("of none", 0, () -> y.explained(6));
            due("16 to 20", 8, () -> y.explained(7));
            due("as it was, but by no RULE", 0, () -> y.explained(8));
        });
    }

    private static void promise36() {
        test(36, "`int telling()`: TELLING, as bits; NONE.", () -> {
            due("no SEEN", 0, () -> Kit.of("rule a to b").telling());
            due("nothing told", 0, () -> new BeastRules().telling());
            due("no RULES", NONE, () -> Kit.of("seen a to b").telling());
            due("RULE 11", 2048, () -> Kit.of("seen a to b" + ";rule c to d".repeat(11) + ";rule a to b").telling());
        });
        test(36, "TELLING: the fewest RULES by which each SEEN can be: of several the least as bits; NONE.", () -> {
            due("the fewest ahead of the least", 4, () -> Kit.of("rule ca to cb;rule da to db;rule a to b;seen ca to cb;seen da to db").telling());
            due("of two the least", 1, () -> Kit.of("rule a to b;rule a to b;seen a to b").telling());
            due("of pairs the least", 5, () -> Kit.of("rule a to b;rule c to d;rule b to c;rule b to c;seen a to b;seen b to c").telling());
            due("one cannot be", NONE, () -> Kit.of("rule a to b;seen a to b;seen b to a").telling());
            BeastRules ten = Kit.of("rule a to b;rule b to c;rule c to d;rule d to e;rule e to f;rule f to g;rule g to h;rule h to a;rule a to c;rule b to d");
            Kit.valley(ten, "seen a to b;seen b to c;seen c to d;seen d to e;seen e to f;seen f to g;seen g to h;seen h to a;seen a to c;seen b to d");
            due("ten of ten", 1023, () -> ten.telling());
            due("the last SEEN, too", NONE, () -> {
                ten.drop(9);
                return ten.telling();
            });
        });
    }

    // ---- 37: GUESSED

    private static void guessed(String seen, int many, String left, String right) {
        BeastRules x = Kit.of(seen);
        // What was looked at ahead of it leaves nothing behind.
        for (int times = 0; times < 2; times++) {
            due(seen + ": how many", many, () -> x.guessed(0));
            due(seen + ": LEFT", many == 0 ? NONE : c(left), () -> x.guessed(1));
            due(seen + ": RIGHT", many == 0 ? NONE : c(right), () -> x.guessed(2));
        }
    }

    private static void promise37() {
        test(37, "`long guessed(int what) throws NoSuchElementException`:", () -> {
            BeastRules x = Kit.of("seen a to b");
            due("what 3", ELEMENT, () -> x.guessed(3));
            for (int far : FAR) {
                due("what " + far, ELEMENT, () -> x.guessed(far));
            }
            due("what 3 without SEEN", ELEMENT, () -> new BeastRules().guessed(3));
        });
        test(37, "GUESSED what 0 how many, 1 CODE of the first LEFT, 2 of its RIGHT; NONE. NoSuchElementException: another what.", () -> {
            guessed("seen ab to b", 2, "a", "");
            guessed("seen a to b;seen b to a", 0, "", "");
        });
        test(37, "(0 without SEEN.)", () -> {
            due("how many", 0, () -> Kit.of("rule a to b").guessed(0));
            due("no LEFT", NONE, () -> Kit.of("rule a to b").guessed(1));
            due("no RIGHT", NONE, () -> Kit.of("rule a to b").guessed(2));
            BeastRules x = new BeastRules();
            x.image();
            Kit.valley(x, "seen a to b");
            due("one", 1, () -> x.guessed(0));
            x.back();
            due("gone back", 0, () -> x.guessed(0));
            due("gone back", NONE, () -> x.guessed(1));
        });
        test(37, "GUESSED: RULES, told or not (LEFT 1 to 3, RIGHT 0 to 3 BEASTS, not the same), by each of which alone each SEEN can be (at some PLACE):", () -> {
            guessed("seen abc to .", 1, "abc", "");
            guessed("seen abcd to .", 0, "", "");
            guessed("seen a to bcd", 1, "a", "bcd");
            guessed("seen a to bcde", 0, "", "");
            guessed("seen abc to bcd", 1, "abc", "bcd");
            guessed("seen abcd to bcde", 0, "", "");
            guessed("seen . to a", 0, "", "");
            guessed("seen . to .", 0, "", "");
            guessed("seen a to a", 0, "", "");
            guessed("seen aaa to aaa", 0, "", "");
            guessed("seen a to .", 1, "a", "");
            guessed("rule a to b;seen a to b", 1, "a", "b");
            guessed("seen aaaa to aaa", 3, "a", "");
            guessed("seen aaaa to aaaaa", 2, "a", "aa");
            guessed("seen aaaa to aaaaaa", 1, "a", "aaa");
            guessed("seen aaaa to aaaaaaa", 0, "", "");
            guessed("seen aaaa to aa", 2, "aa", "");
            guessed("seen aaaa to a", 1, "aaa", "");
            guessed("seen " + a(20) + " to " + a(19) + "b", 3, "a", "b");
            guessed("seen " + a(20) + " to b" + a(19), 3, "a", "b");
        });
        test(37, "by each of which alone each SEEN can be (at some PLACE):", () -> {
            guessed("seen abc to adc;seen eabe to eade", 2, "b", "d");
            guessed("seen ab to b;seen ba to b", 1, "a", "");
            guessed("seen a to b;seen a to c", 0, "", "");
            guessed("seen a to b" + ";seen ca to cb".repeat(8) + ";seen ac to bc", 1, "a", "b");
            guessed("seen a to b" + ";seen ca to cb".repeat(8) + ";seen c to b", 0, "", "");
            guessed("seen a to b;seen . to .", 0, "", "");
            guessed("seen a to b;seen a to bb", 0, "", "");
        });
    }

    private static void promise37First() {
        test(37, "how many; the first (by how many BEASTS LEFT has, then RIGHT, then CODE of LEFT, then of RIGHT): CODE of LEFT, of RIGHT; NONE.", () -> {
            guessed("seen abab to ab", 4, "ab", "");
            guessed("seen baba to ba", 4, "ab", "");
            // b to ba ahead of it, b to ab behind; bb to bab.
            guessed("seen bb to bab", 3, "b", "ab");
            guessed("seen bb to bcb", 3, "b", "bc");
            guessed("seen bc to bac", 3, "b", "ba");
            guessed("seen aba to ba", 3, "a", "");
            guessed("seen ba to ab", 1, "ba", "ab");
            guessed("seen ca to ba;seen ac to ab", 1, "c", "b");
            guessed("seen hg to hhg", 3, "g", "hg");
            guessed("seen gh to ghh", 3, "g", "gh");
        });
    }

    // ---- 40: sorts

    private static void promise40() {
        test(40, "`int sorts(int what) throws NoSuchElementException`: What 0 IDLE, 1 UNBORN, 2 WOLVES, 3 BREEDERS, as bits. NoSuchElementException: another what.", () -> {
            BeastRules x = new BeastRules();
            due("IDLE without RULES", 255, () -> x.sorts(0));
            due("UNBORN without RULES", 255, () -> x.sorts(1));
            due("WOLVES without RULES", 0, () -> x.sorts(2));
            due("BREEDERS without RULES", 0, () -> x.sorts(3));
            due("what 4", ELEMENT, () -> x.sorts(4));
            for (int far : FAR) {
                due("what " + far, ELEMENT, () -> x.sorts(far));
            }
        });
        test(40, "IDLE: BEASTS that stand in no LEFT, as bits. UNBORN: BEASTS that stand in no RIGHT.", () -> {
            BeastRules x = Kit.of("rule ah to .;rule b to cg");
            due("IDLE", 255 - 1 - 128 - 2, () -> x.sorts(0));
            due("UNBORN", 255 - 4 - 64, () -> x.sorts(1));
            BeastRules all = Kit.of("rule abcd to efgh;rule efgh to abcd");
            due("none is IDLE", 0, () -> all.sorts(0));
            due("none is UNBORN", 0, () -> all.sorts(1));
        });
        test(40, "WOLVES: RULES of which RIGHT has fewer BEASTS than LEFT; BREEDERS: more.", () -> {
            BeastRules x = Kit.of("rule a to .;rule ab to cd;rule a to bc;rule abcd to abc;rule abcd to abcde;rule aa to bb");
            due("WOLVES", 1 + 8, () -> x.sorts(2));
            due("BREEDERS", 4 + 16, () -> x.sorts(3));
            BeastRules twelve = Kit.of("rule a to a" + ";rule a to a".repeat(10) + ";rule a to .");
            due("RULE 11", 2048, () -> twelve.sorts(2));
            due("none", 0, () -> twelve.sorts(3));
            BeastRules other = Kit.of("rule a to aa" + ";rule a to a".repeat(10) + ";rule a to aa");
            due("RULES 0 and 11", 2049, () -> other.sorts(3));
            due("none", 0, () -> other.sorts(2));
        });
    }
}

/** A test for each promise of the document, by number: ordinary, at the edges, and told wrongly. */
public final class PromisesTest {
    private static final String INDEX = "throws.IndexOutOfBoundsException";
    private static final String ARGUMENT = "throws.IllegalArgumentException";
    private static final String STATE = "throws.IllegalStateException";
    private static final String UNSUPPORTED = "throws.UnsupportedOperationException";
    private static final String ELEMENT = "throws.NoSuchElementException";
    private static final int NONE = -1;
    private static final long[] NO_CODES = {0, -1, 2, 3, 4, 7, 16, 32, 63, 1L << 61, 1L << 62, Long.MAX_VALUE,
        Long.MIN_VALUE, -8};

    public static void main(String[] args) {
        told();
        acts();
        byWay();
        searches();
        looks();
        undone();
        Kit.finish("PromisesTest");
    }

    private static void due(String what, Object want, Kit.Call call) {
        Kit.due(what, want, call);
    }

    private static long c(String letters) {
        return Kit.code(letters);
    }

    private static String a(int many) {
        return "a".repeat(many);
    }

    private static void told() {
        promise1();
        promise2();
        promise3();
        promise4();
        promise5();
        promise6();
        promise7to9();
        promise10();
        promise11();
        promise12();
        promise13();
    }

    private static void acts() {
        promise14();
        promise15();
        promise16();
        promise17();
        promise18();
        promise19();
    }

    private static void byWay() {
        promise20();
        promise21();
        promise22();
        promise32();
        promise33();
        promise34();
    }

    private static void searches() {
        promise23();
        promise24();
        promise25();
        promise38();
        promise39();
    }

    private static void looks() {
        promise26();
        promise27();
        promise28();
        promise29();
        promise30and31();
        promise35();
        promise36();
        promise37();
        promise40();
    }

    private static void undone() {
        promise41();
        promise42();
        promise43and44();
        promise45();
    }

    // ---- a new object

    private static void promise1() {
        BeastRules x = new BeastRules();
        int[] first = {0, 0, 0, 0, NONE, 0, 0, 0, 0, 0, 0};
        for (int what = 0; what < first.length; what++) {
            int w = what;
            due("1: count(" + w + ")", first[w], () -> x.count(w));
        }
        due("1: fault", NONE, () -> x.fault());
        due("1: rule", INDEX, () -> x.rule(0, false));
        due("1: field", INDEX, () -> x.field(0));
        due("1: seen", INDEX, () -> x.seen(0, false));
        due("1: undo", false, () -> x.undo());
        due("1: back", false, () -> x.back());
        due("1: weights are 1", 20, () -> x.light(c(a(4) + "hgfedcbahgfedcba")));
        due("1: seed is 1", 1, () -> x.seed(7));
        due("1: an empty TAPE", 20, () -> x.feed(0, 0, 0, 0, 0));
        due("1: NONE", NONE, () -> BeastRules.NONE);
    }

    private static void promise2() {
        BeastRules x = new BeastRules();
        // The highest byte of each number first: "fog " "99  " ...
        due("2: 20", 20, () -> x.feed(0x666f6720, 0x39392020, 0x3b666f67, 0x20313020, 0x20202020));
        due("2: read in order", 1, () -> x.valley());
        due("2: the last told", 10, () -> x.count(6));
        for (int i = 1; i <= 20; i++) {
            int all = 20 * i;
            due("2: " + all, all, () -> x.feed(0x20202020, 0x20202020, 0x20202020, 0x20202020, 0x20202020));
        }
        due("2: too many", NONE, () -> x.feed(0, 0, 0, 0, 0));
        due("2: none came", true, () -> x.end(400));
        due("2: blanks alone", 2, () -> x.valley());
        // 381 bytes: 20 more would be 401.
        for (int i = 0; i < 20; i++) {
            x.feed(0, 0, 0, 0, 0);
        }
        x.end(381);
        due("2: 401", NONE, () -> x.feed(0, 0, 0, 0, 0));
        x.end(380);
        due("2: 400", 400, () -> x.feed(-1, -1, -1, -1, -1));
        x.end(0);
        x.feed(-1, -1, -1, -1, -1);
        due("2: bytes above 127", ARGUMENT, () -> x.valley());
        due("2: cannot stand there", 0, () -> x.fault());
    }

    private static void promise3() {
        BeastRules x = new BeastRules();
        due("3: nothing fed", true, () -> x.end(0));
        due("3: nothing fed", false, () -> x.end(1));
        x.feed(0x666f6720, 0x37000000, 0, 0, 0);
        due("3: below 0", false, () -> x.end(-1));
        due("3: the least number", false, () -> x.end(Integer.MIN_VALUE));
        due("3: more than there are", false, () -> x.end(21));
        due("3: as many", true, () -> x.end(20));
        due("3: fewer", true, () -> x.end(5));
        due("3: they are gone", false, () -> x.end(6));
        due("3: the first ones stay", 1, () -> x.valley());
        due("3: as told", 7, () -> x.count(6));
        due("3: used up", false, () -> x.end(1));
    }

    private static void promise4() {
        BeastRules x = new BeastRules();
        due("4: one", 1, () -> Kit.valley(x, "  rule abcd to abcde ;field " + a(20) + ";seen . to " + a(20) + "  "));
        due("4: another behind it", 2, () -> Kit.valley(x, "rule a to .;field .;seen " + a(20)
                + " to .;first all;fog 100;weight h 99;weight a 0;drop 0"));
        due("4: RULES", 1, () -> x.count(0));
        due("4: those behind have a number less", c("a"), () -> x.rule(0, false));
        due("4: FIELDS", 2, () -> x.count(1));
        due("4: SEEN", 2, () -> x.count(2));
        due("4: WAY", 3, () -> x.count(5));
        due("4: FOG", 100, () -> x.count(6));
        due("4: weights", 99L, () -> (long) x.light(c("ah")));
        due("4: none at all", 3, () -> Kit.valley(x, ""));
        due("4: blanks", 4, () -> Kit.valley(x, "    "));
        due("4: no blank where none is needed", 5, () -> Kit.valley(x, "fog007;weight a9;rule a to.;drop1;field."));
        due("4: FOG", 7, () -> x.count(6));
        due("4: nothing stays of a wrong text", ARGUMENT, () -> Kit.valley(x, "fog 9;field a;rule b to a;drop 0;first x"));
        due("4: FOG", 7, () -> x.count(6));
        due("4: FIELDS", 3, () -> x.count(1));
        due("4: RULES", 1, () -> x.count(0));
        due("4: texts", 5, () -> x.count(3));
        for (String way : new String[] {"left", "right", "rule", "all"}) {
            Kit.valley(x, "first " + way);
        }
        due("4: nine", 9, () -> x.count(3));
        due("4: ten", 10, () -> Kit.valley(x, "fog 3"));
        due("4: eleven", UNSUPPORTED, () -> Kit.valley(x, "fog 4"));
        due("4: right for all that", NONE, () -> x.fault());
        due("4: the TAPE is used up", false, () -> x.end(1));
        due("4: eleven, wrong", ARGUMENT, () -> Kit.valley(x, "fog x"));
        due("4: told by fault", 4, () -> x.fault());
        due("4: still ten", 10, () -> x.count(3));
        due("4: FOG", 3, () -> x.count(6));
        due("4: 14 LINES", 1, () -> Kit.valley(new BeastRules(), "fog 1" + ";fog 2".repeat(13)));
        due("4: 15 LINES", ARGUMENT, () -> Kit.valley(new BeastRules(), "fog 1" + ";fog 2".repeat(14)));
        promise4Limits();
        promise4Ways();
    }

    private static void promise4Limits() {
        BeastRules x = new BeastRules();
        due("4: 12 RULES", 1, () -> Kit.valley(x, "rule a to b" + ";rule a to b".repeat(11)));
        due("4: 13 RULES", ARGUMENT, () -> Kit.valley(x, "fog 5;rule a to b"));
        due("4: at the first word", 6, () -> x.fault());
        due("4: after one is dropped", 2, () -> Kit.valley(x, "drop 11;rule c to d"));
        due("4: it is the last", c("c"), () -> x.rule(11, false));
        due("4: 6 FIELDS", 3, () -> Kit.valley(x, "field a" + ";field b".repeat(5)));
        due("4: 7 FIELDS", ARGUMENT, () -> Kit.valley(x, "field c"));
        due("4: at the first word", 0, () -> x.fault());
        due("4: 10 SEEN", 4, () -> Kit.valley(x, "seen a to b" + ";seen . to .".repeat(9)));
        due("4: 11 SEEN", ARGUMENT, () -> Kit.valley(x, "  seen a to b"));
        due("4: at the first word", 2, () -> x.fault());
        due("4: a RULE that there is not", ARGUMENT, () -> Kit.valley(x, "drop 12"));
        due("4: nor behind another dropped", ARGUMENT, () -> Kit.valley(x, "drop 11;drop 11"));
    }

    private static void promise4Ways() {
        // What stands where tells which WAY was gone.
        String rules = "rule b to c;rule a to d;field abab;first ";
        due("4: left", c("dbab"), () -> firstStep(rules + "left"));
        due("4: right", c("abac"), () -> firstStep(rules + "right"));
        due("4: rule", c("acab"), () -> firstStep(rules + "rule"));
        due("4: all", c("dcdc"), () -> firstStep(rules + "all"));
        due("4: left: the least RULE of one PLACE", c("dbab"), () -> firstStep("rule ab to .;field abab;first left;rule a to d;drop 0"));
        due("4: left: of several the least", c("ab"), () -> firstStep("rule ab to .;rule a to d;field abab"));
        due("4: right: of several the least", c("abh"), () -> firstStep("rule ab to h;rule a to d;field abab;first right"));
        due("4: all goes on behind LEFT", c("cca"), () -> firstStep("rule aa to c;field aaaaa;first all"));
        due("4: all looks at it as it was", c("bcbc"), () -> firstStep("rule a to b;rule b to c;field abab;first all"));
        due("4: all, 20 of them", c("b".repeat(20)), () -> firstStep("rule a to bb;field " + a(10) + ";first all"));
        due("4: all, 21 of them", c(a(9) + "ccc"), () -> firstStep("rule a to bb;rule c to ccc;field " + a(9) + "ccc;first all"));
        due("4: all, one of which does not fit", c(a(20)), () -> firstStep("rule a to bb;field " + a(20) + ";first all"));
        due("4: all: one is let go by, the next is used", c(a(16) + "bbb"),
                () -> firstStep("rule aaaa to aaaaa;rule cccc to bbb;field " + a(16) + "cccc;first all"));
        due("4: left goes past one too long", c(a(19) + "c"), () -> firstStep("rule a to bb;rule b to c;field " + a(19) + "b"));
    }

    private static long firstStep(String text) {
        BeastRules x = Kit.of(text);
        x.run(0, 1);
        return x.field(0);
    }

    private static void promise5() {
        BeastRules x = Kit.of("rule a to b;rule b to c;field aaab");
        due("5: blanks alone", 0, () -> Kit.law(x, "  "));
        due("5: LINES", 0, () -> x.count(4));
        due("5: one", 1, () -> Kit.law(x, "bar"));
        due("5: nothing fits", false, () -> x.fits(c("ab"), 0, 0));
        due("5: in place of the one before", 2, () -> Kit.law(x, "bar if rule > 0;bar if place < 1"));
        due("5: RULE 0 at PLACE 1", true, () -> x.fits(c("aab"), 0, 1));
        due("5: RULE 0 at PLACE 0", false, () -> x.fits(c("aab"), 0, 0));
        due("5: RULE 1", false, () -> x.fits(c("aab"), 1, 2));
        due("5: a wrong one", ARGUMENT, () -> Kit.law(x, "bar;bar if"));
        due("5: the one before stays", 2, () -> x.count(4));
        due("5: the one before stays", true, () -> x.fits(c("aab"), 0, 1));
        due("5: the TAPE is used up", false, () -> x.end(1));
        due("5: twelve", 12, () -> Kit.law(x, "bar if 1 < 0" + "; bar if 1 < 0".repeat(11)));
        due("5: thirteen", ARGUMENT, () -> Kit.law(x, "bar" + ";bar".repeat(12)));
        due("5: none", 0, () -> Kit.law(x, ""));
        due("5: all fits again", true, () -> x.fits(c("aab"), 0, 0));
        promise5Parts();
    }

    private static void promise5Parts() {
        String[][] barred = {
            {"rule > 0", "1"}, {"rule < 1", "0"}, {"rule < 2", "1"}, {"rule > 1", "0"}, {"place > 1", "1"}, {"place < 2", "0"}, {"long > 4", "1"},
            {"long < 5", "0"}, {"behind > 2", "0"}, {"behind < 2", "0"}, {"behind < 3 and behind > 1", "1"},
            {"year > 0", "0"}, {"year < 1", "1"}, {"end", "0"}, {"not end", "1"}, {"not not end", "0"},
            {"2 < 2", "0"}, {"2 > 2", "0"}, {"1 + 1 + 1 > 2", "1"}, {"2 < 1 + 2", "1"}, {"999 > 998", "1"},
            {"place + behind + 1 < long", "0"}, {"place + behind < long", "1"}, {"end or place > 1", "1"},
            {"end and place > 1", "0"}, {"1<2 or 1<2 and 2<1", "1"}, {"(1<2 or 1<2) and 2<1", "0"},
            {"not 1<2 or 1<2", "1"}, {"not (1<2 or 1<2)", "0"}, {"not end and 2<1", "0"}, {"((((((1<2))))))", "1"},
            {"not(not(not(2<1)))", "1"}, {"not(not not(2<1) or 1<2)", "0"}, {"001 < 2", "1"},
            {"2<1 or 2<1 or 1<2", "1"}, {"1<2 and 1<2 and 2<1", "0"}, {"1<2 and not 2<1", "1"},
        };
        for (String[] b : barred) {
            // RULE 1 at PLACE 2 of 5 BEASTS, of which 2 are behind.
            BeastRules x = Kit.of("rule b to a;rule a to b", "bar if " + b[0]);
            due("5: bar if " + b[0], b[1].equals("0"), () -> x.fits(c("bbabb"), 1, 2));
        }
        for (String deepest : new String[] {"1+1<1+1+1", "2+1<1+2", "1<2 and 3<1+2", "2<1 or 1<2 and 1+2<1+1+1+1"}) {
            // As much waits to be joined as ever can.
            String deep = "2<1 or 1<2 and (".repeat(6) + "2<1 or 1<2 and " + deepest + ")".repeat(6);
            boolean holds = deepest.endsWith("1+1");
            due("5: bar if " + deep, !holds, () -> Kit.of("rule a to b", "bar if " + deep).fits(8, 0, 0));
            String other = "1<2 and not (" .repeat(3) + "2<1 or 1<2 and " + deepest + ")".repeat(3);
            due("5: bar if " + other, holds, () -> Kit.of("rule a to b", "bar if " + other).fits(8, 0, 0));
        }
        BeastRules ends = Kit.of("rule aa to b", "bar if end");
        due("5: the first PLACE is an end", false, () -> ends.fits(c("aab"), 0, 0));
        due("5: nothing behind LEFT is an end", false, () -> ends.fits(c("baa"), 0, 1));
        due("5: within is none", true, () -> ends.fits(c("baab"), 0, 1));
        BeastRules years = Kit.of("rule a to b;field aaa", "bar if year < 2");
        due("5: barred for two YEARS", 1, () -> years.years(0, 3));
        due("5: then not", true, () -> years.fits(c("a"), 0, 0));
    }

    private static void promise6() {
        BeastRules x = new BeastRules();
        due("6: wrong", ARGUMENT, () -> Kit.valley(x, "fog 5 ;  beast"));
        due("6: there", 9, () -> x.fault());
        due("6: asking changes nothing", 9, () -> x.fault());
        due("6: right", 1, () -> Kit.valley(x, "fog 5"));
        due("6: none", NONE, () -> x.fault());
        due("6: wrong law", ARGUMENT, () -> Kit.law(x, "bar if end end"));
        due("6: there", 11, () -> x.fault());
        due("6: right law", 1, () -> Kit.law(x, "bar if end"));
        due("6: none", NONE, () -> x.fault());
    }

    private static void promise7to9() {
        BeastRules x = Kit.of("rule ba to .;rule h to abcde;field .;field ba;seen h to .;seen . to hh");
        due("7: LEFT", 72, () -> x.rule(0, false));
        due("7: RIGHT", 1, () -> x.rule(0, true));
        due("7: LEFT", c("h"), () -> x.rule(1, false));
        due("7: RIGHT", c("abcde"), () -> x.rule(1, true));
        due("8: none there", 1, () -> x.field(0));
        due("8: ba", 72, () -> x.field(1));
        due("9: ahead", c("h"), () -> x.seen(0, false));
        due("9: became", 1, () -> x.seen(0, true));
        due("9: ahead", 1, () -> x.seen(1, false));
        due("9: became", c("hh"), () -> x.seen(1, true));
        for (int none : new int[] {-1, 2, 6, 12, Integer.MAX_VALUE, Integer.MIN_VALUE}) {
            due("7: rule " + none, INDEX, () -> x.rule(none, true));
            due("8: field " + none, INDEX, () -> x.field(none));
            due("9: seen " + none, INDEX, () -> x.seen(none, true));
        }
    }

    private static void promise10() {
        BeastRules x = new BeastRules();
        for (int k = 0; k < 8; k++) {
            int i = k;
            due("10: beast " + k, k, () -> x.beast(c("abcdefgh"), i));
        }
        due("10: behind the last", NONE, () -> x.beast(c("abcdefgh"), 8));
        due("10: ahead of the first", NONE, () -> x.beast(c("abcdefgh"), -1));
        due("10: of none", NONE, () -> x.beast(1, 0));
        due("10: the greatest CODE", 7, () -> x.beast((1L << 61) - 1, 19));
        due("10: of 20 the first", 1, () -> x.beast(c("b" + a(19)), 0));
        due("10: far", NONE, () -> x.beast(8, Integer.MAX_VALUE));
        due("10: far", NONE, () -> x.beast(8, Integer.MIN_VALUE));
        for (long none : NO_CODES) {
            due("10: " + none, ARGUMENT, () -> x.beast(none, 0));
            due("10: " + none, ARGUMENT, () -> x.beast(none, -1));
        }
    }

    private static void promise11() {
        BeastRules x = Kit.of("rule a to b;field aaaa;field aaa");
        due("11: at first", 0, () -> x.steps(0));
        x.run(0, 2);
        x.use(0, 0, 3);
        due("11: run and used", 3, () -> x.steps(0));
        due("11: the other", 0, () -> x.steps(1));
        x.years(1, 9);
        due("11: used in YEARS", 3, () -> x.steps(1));
        x.put(0, 8);
        due("11: told anew", 0, () -> x.steps(0));
        due("11: none such", INDEX, () -> x.steps(2));
        due("11: none such", INDEX, () -> x.steps(-1));
    }

    private static void promise12() {
        BeastRules x = Kit.of("rule b to cd;rule c to .;rule ad to aed;field aba");
        due("12: none", NONE, () -> x.maker(0, 0, 0));
        due("12: none", NONE, () -> x.maker(0, 0, 1));
        x.use(0, 0, 1);
        checkMakers(x, "acda", "-00-", "-11-");
        x.use(0, 1, 1);
        checkMakers(x, "ada", "-0-", "-1-");
        // a and d are made anew, though they were of LEFT.
        x.use(0, 2, 0);
        checkMakers(x, "aeda", "222-", "333-");
        x.drop(0);
        checkMakers(x, "aeda", "222-", "333-");
        due("12: no such PLACE", INDEX, () -> x.maker(0, 4, 0));
        due("12: no such PLACE", INDEX, () -> x.maker(0, -1, 0));
        due("12: no such FIELD", INDEX, () -> x.maker(1, 0, 0));
        due("12: another what", ELEMENT, () -> x.maker(0, 0, 2));
        due("12: another what", ELEMENT, () -> x.maker(0, 0, -1));
        due("12: the PLACE is told first", INDEX, () -> x.maker(0, 4, 2));
        x.put(0, c("aeda"));
        checkMakers(x, "aeda", "----", "----");
        BeastRules all = Kit.of("first all;rule a to bb;rule c to .;rule b to a;field dacbd");
        all.run(0, 1);
        checkMakers(all, "dbbad", "-002-", "-111-");
        all.run(0, 1);
        checkMakers(all, "daabbd", "-2200-", "-2222-");
        BeastRules years = Kit.of("rule a to b;field a");
        years.years(0, 4);
        checkMakers(years, "b", "0", "1");
    }

    private static void checkMakers(BeastRules x, String beasts, String rules, String steps) {
        due("12: " + beasts, beasts, () -> Kit.letters(x.field(0)));
        for (int place = 0; place < beasts.length(); place++) {
            int p = place;
            String where = "12: " + beasts + " at " + p;
            due(where, rules.charAt(p) == '-' ? NONE : rules.charAt(p) - '0', () -> x.maker(0, p, 0));
            due(where, steps.charAt(p) == '-' ? NONE : steps.charAt(p) - '0', () -> x.maker(0, p, 1));
        }
    }

    private static void promise13() {
        BeastRules x = Kit.of("rule ab to abb;rule aaaa to .;rule b to abcde");
        due("13: at the begin", true, () -> x.fits(c("abc"), 0, 0));
        due("13: at the end", true, () -> x.fits(c("cab"), 0, 1));
        due("13: not there", false, () -> x.fits(c("cab"), 0, 0));
        due("13: half of it", false, () -> x.fits(c("aaaaa"), 0, 4));
        due("13: over the end", false, () -> x.fits(c("aaaaa"), 1, 2));
        due("13: four", true, () -> x.fits(c("aaaaa"), 1, 1));
        due("13: no such PLACE", false, () -> x.fits(c("ab"), 0, 2));
        due("13: no such PLACE", false, () -> x.fits(c("ab"), 0, -1));
        due("13: no such PLACE", false, () -> x.fits(c("ab"), 0, Integer.MAX_VALUE));
        due("13: no such PLACE", false, () -> x.fits(c("ab"), 0, Integer.MIN_VALUE));
        due("13: nothing there", false, () -> x.fits(1, 2, 0));
        due("13: 20 behind it", true, () -> x.fits(c("c".repeat(17) + "ab"), 0, 17));
        due("13: 21 behind it", false, () -> x.fits(c("c".repeat(18) + "ab"), 0, 18));
        due("13: 20 behind it", true, () -> x.fits(c("c".repeat(15) + "b"), 2, 15));
        due("13: 21 behind it", false, () -> x.fits(c("c".repeat(16) + "b"), 2, 16));
        due("13: no such RULE", INDEX, () -> x.fits(c("ab"), 3, 0));
        due("13: no such RULE", INDEX, () -> x.fits(c("ab"), -1, 0));
        for (long none : NO_CODES) {
            due("13: " + none, ARGUMENT, () -> x.fits(none, 0, 0));
        }
        due("13: the RULE is told first", INDEX, () -> x.fits(0, 3, 0));
    }

    // ---- acts

    private static void promise14() {
        BeastRules x = Kit.of("rule ab to c;rule c to .;field cabab");
        due("14: at 1", c("ccab"), () -> x.use(0, 0, 1));
        due("14: at 0", c("cab"), () -> x.use(0, 1, 0));
        due("14: does not fit", STATE, () -> x.use(0, 0, 0));
        due("14: no such PLACE", STATE, () -> x.use(0, 0, 3));
        due("14: no such PLACE", STATE, () -> x.use(0, 0, -1));
        due("14: no such RULE", INDEX, () -> x.use(0, 2, 0));
        due("14: no such FIELD", INDEX, () -> x.use(1, 0, 0));
        due("14: no such FIELD", INDEX, () -> x.use(-1, 0, 0));
        due("14: nothing happened", c("cab"), () -> x.field(0));
        due("14: nothing happened", 2, () -> x.steps(0));
        due("14: nothing happened", 2, () -> x.count(10));
        Kit.law(x, "bar if rule < 1");
        due("14: barred", STATE, () -> x.use(0, 0, 1));
        due("14: not barred", c("ab"), () -> x.use(0, 1, 0));
    }

    private static void promise15() {
        BeastRules x = Kit.of("rule a to b;field aaa;field c");
        due("15: two", 2, () -> x.run(0, 2));
        due("15: so far", c("bba"), () -> x.field(0));
        due("15: the rest", 1, () -> x.run(0, 200));
        due("15: none", 0, () -> x.run(0, 1));
        due("15: none", 0, () -> x.run(1, 200));
        due("15: an act each", 4, () -> x.count(10));
        due("15: 0", ARGUMENT, () -> x.run(0, 0));
        due("15: 201", ARGUMENT, () -> x.run(0, 201));
        due("15: below 0", ARGUMENT, () -> x.run(0, -5));
        due("15: no such FIELD", INDEX, () -> x.run(2, 1));
        due("15: no such FIELD is told first", INDEX, () -> x.run(2, 0));
        due("15: no act", 4, () -> x.count(10));
        BeastRules round = Kit.of("rule a to b;rule b to a;field a");
        due("15: 200", 200, () -> round.run(0, 200));
        due("15: 199", 199, () -> round.run(0, 199));
        due("15: STEPS", 399, () -> round.steps(0));
        due("15: odd", c("b"), () -> round.field(0));
    }

    private static void promise16() {
        BeastRules x = Kit.of("rule a to b;field aaa");
        x.run(0, 1);
        due("16: what it had", c("baa"), () -> x.put(0, c("hh")));
        due("16: what it has", c("hh"), () -> x.field(0));
        due("16: STEPS", 0, () -> x.steps(0));
        due("16: MAKERS", NONE, () -> x.maker(0, 0, 0));
        due("16: an act", 2, () -> x.count(10));
        for (long none : NO_CODES) {
            due("16: " + none, ARGUMENT, () -> x.put(0, none));
        }
        due("16: no such FIELD", INDEX, () -> x.put(1, 8));
        due("16: told first", INDEX, () -> x.put(-1, 0));
        due("16: nothing happened", c("hh"), () -> x.field(0));
        due("16: none there", c("hh"), () -> x.put(0, 1));
        due("16: 20 there", 1, () -> x.put(0, c(a(20))));
    }

    private static void promise17() {
        BeastRules x = new BeastRules();
        due("17: the first", 0, () -> x.add(c("a"), 1));
        due("17: the greatest", 1, () -> x.add(c("hhhh"), c("hhhhh")));
        due("17: alike", 2, () -> x.add(8, 8));
        due("17: LEFT none", ARGUMENT, () -> x.add(1, 8));
        due("17: LEFT of 5", ARGUMENT, () -> x.add(c("aaaaa"), 8));
        due("17: RIGHT of 6", ARGUMENT, () -> x.add(8, c("aaaaaa")));
        for (long none : NO_CODES) {
            due("17: LEFT " + none, ARGUMENT, () -> x.add(none, 8));
            due("17: RIGHT " + none, ARGUMENT, () -> x.add(8, none));
        }
        due("17: nothing happened", 3, () -> x.count(0));
        due("17: an act each", 3, () -> x.count(10));
        for (int i = 3; i < 12; i++) {
            int number = i;
            due("17: more", number, () -> x.add(c("b"), c("c")));
        }
        due("17: 13", UNSUPPORTED, () -> x.add(8, 9));
        due("17: 13, none", ARGUMENT, () -> x.add(8, 0));
        due("17: nothing happened", 12, () -> x.count(10));
        due("17: LEFT", c("hhhh"), () -> x.rule(1, false));
        due("17: RIGHT", c("hhhhh"), () -> x.rule(1, true));
    }

    private static void promise18() {
        BeastRules x = Kit.of("rule a to b;rule b to c;rule cc to d");
        due("18: the middle", 2, () -> x.drop(1));
        due("18: the one behind", c("cc"), () -> x.rule(1, false));
        due("18: its RIGHT", c("d"), () -> x.rule(1, true));
        due("18: fits by its new number", true, () -> x.fits(c("acc"), 1, 1));
        due("18: no such one", INDEX, () -> x.drop(2));
        due("18: no such one", INDEX, () -> x.drop(-1));
        due("18: the last", 1, () -> x.drop(1));
        due("18: all", 0, () -> x.drop(0));
        due("18: none", INDEX, () -> x.drop(0));
        due("18: an act each", 3, () -> x.count(10));
    }

    private static void promise19() {
        // SEED 1 goes to 1103527590, of which bits 16 to 30 are 16838; then 5758, 10113, 17515, 31051, 5627.
        BeastRules x = Kit.of("rule a to b;rule a to c;field aaa");
        // 16838 is no fog; 5758 modulo 6 is 4: PLACE 2, RULE 0.
        due("19: used", 1, () -> x.years(0, 1));
        due("19: drawn", c("aab"), () -> x.field(0));
        // 10113; 17515 modulo 4 is 3: PLACE 1, RULE 1.
        due("19: used", 1, () -> x.years(0, 1));
        due("19: drawn", c("acb"), () -> x.field(0));
        due("19: YEAR", 2, () -> x.count(7));
        due("19: SEED", seedBehind(4), () -> x.seed(1));
        // One draw only, if nothing fits.
        BeastRules none = Kit.of("rule a to b;field c");
        due("19: none fits", 0, () -> none.years(0, 1));
        due("19: one DRAW", 1103527590, () -> none.seed(1));
        due("19: the YEAR goes on", 1, () -> none.count(7));
        due("19: none fits", 0, () -> none.years(0, 2));
        due("19: two DRAWS", seedBehind(2), () -> none.seed(1));
        // FOG above 16838 % 100 = 38 hides the first YEAR.
        BeastRules fog = Kit.of("rule a to b;field aaa;fog 39");
        due("19: in fog", 0, () -> fog.years(0, 1));
        due("19: one DRAW", seedBehind(1), () -> fog.seed(1));
        BeastRules clear = Kit.of("rule a to b;field aaa;fog 38");
        due("19: out of it", 1, () -> clear.years(0, 1));
        due("19: two DRAWS", seedBehind(2), () -> clear.seed(1));
        BeastRules always = Kit.of("rule a to b;rule b to a;field a;fog 100");
        due("19: always in fog", 0, () -> always.years(0, 200));
        due("19: YEARS", 200, () -> always.count(7));
        due("19: an act", 1, () -> always.count(10));
        due("19: 0", ARGUMENT, () -> always.years(0, 0));
        due("19: 201", ARGUMENT, () -> always.years(0, 201));
        due("19: no such FIELD", INDEX, () -> always.years(1, 1));
        due("19: told first", INDEX, () -> always.years(-1, 0));
        due("19: nothing happened", 200, () -> always.count(7));
        due("19: no act", 1, () -> always.count(10));
        // THE LAW looks at the YEAR ahead of its end.
        BeastRules law = Kit.of("rule a to b;rule b to a;field a", "bar if year > 2");
        due("19: YEARS 0 to 2", 3, () -> law.years(0, 9));
        due("19: YEARS", 9, () -> law.count(7));
    }

    private static int seedBehind(int draws) {
        long seed = 1;
        for (int i = 0; i < draws; i++) {
            seed = seed * 1103515245L + 12345L & 0xffffffffL;
        }
        return (int) seed;
    }

    // ---- by WAY

    private static void promise20() {
        BeastRules x = Kit.of("rule ba to ab");
        due("20: STEPS", 4, () -> x.settles(c("bbaa"), 500, false));
        due("20: the MEADOW", c("aabb"), () -> x.settles(c("bbaa"), 500, true));
        due("20: just so many", 4, () -> x.settles(c("bbaa"), 4, false));
        due("20: one too few", NONE, () -> x.settles(c("bbaa"), 3, false));
        due("20: one too few", NONE, () -> x.settles(c("bbaa"), 3, true));
        due("20: at once", 0, () -> x.settles(c("ab"), 0, false));
        due("20: at once", c("ab"), () -> x.settles(c("ab"), 0, true));
        due("20: none there", 1, () -> x.settles(1, 0, true));
        due("20: below 0", ARGUMENT, () -> x.settles(8, -1, false));
        due("20: 501", ARGUMENT, () -> x.settles(8, 501, false));
        for (long none : NO_CODES) {
            due("20: " + none, ARGUMENT, () -> x.settles(none, 5, true));
        }
        BeastRules round = Kit.of("rule a to b;rule b to c;rule c to a;field a");
        due("20: goes round", NONE, () -> round.settles(8, 500, false));
        due("20: no FIELD goes on", 0, () -> round.steps(0));
        // 20 BEASTS sorted one by one: 10 times 10 STEPS.
        due("20: 100", 100, () -> x.settles(c("b".repeat(10) + a(10)), 100, false));
        due("20: not in 99", NONE, () -> x.settles(c("b".repeat(10) + a(10)), 99, false));
        BeastRules down = Kit.of(Machines.COUNT_DOWN + ";rule g to h");
        due("20: 500", 500, () -> down.settles(c("gggg" + Machines.digits(167) + "e"), 500, false));
        due("20: not in 499", NONE, () -> down.settles(c("gggg" + Machines.digits(167) + "e"), 499, false));
        due("20: not in 500", NONE, () -> down.settles(c("g" + Machines.digits(168) + "e"), 500, false));
        BeastRules barred = Kit.of("rule ba to ab", "bar if place > 1");
        due("20: by THE LAW", c("abba"), () -> barred.settles(c("baba"), 500, true));
        BeastRules all = Kit.of("rule ba to ab;first all");
        due("20: all at once", 3, () -> all.settles(c("bbaa"), 500, false));
        BeastRules full = Kit.of("rule a to aa;first all");
        due("20: settled where too many would come of it", 1, () -> full.settles(c(a(10)), 9, false));
        due("20: settled where too many would come of it", 0, () -> full.settles(c(a(11)), 9, false));
    }

    private static void promise21() {
        BeastRules x = Kit.of("rule d to a;rule a to b;rule b to c;rule c to a");
        due("21: the STEP", 4, () -> x.again(c("d"), false));
        due("21: the earlier one", 1, () -> x.again(c("d"), true));
        due("21: at first", 3, () -> x.again(c("a"), false));
        due("21: at first", 0, () -> x.again(c("a"), true));
        due("21: settles", NONE, () -> x.again(c("e"), false));
        due("21: settles", NONE, () -> x.again(1, true));
        BeastRules same = Kit.of("rule a to a");
        due("21: by a RULE of both sides alike", 1, () -> same.again(8, false));
        due("21: by a RULE of both sides alike", 0, () -> same.again(8, true));
        BeastRules down = Kit.of(Machines.COUNT_DOWN + ";rule h to f;rule g to g");
        due("21: 500", 500, () -> down.again(c("ghhh" + Machines.digits(167) + "e"), false));
        due("21: 499", 499, () -> down.again(c("ghhh" + Machines.digits(167) + "e"), true));
        due("21: 501", NONE, () -> down.again(c("ghhhh" + Machines.digits(167) + "e"), false));
        for (long none : NO_CODES) {
            due("21: " + none, ARGUMENT, () -> x.again(none, false));
        }
    }

    private static void promise22() {
        BeastRules x = Kit.of("rule ba to ab;rule c to d;rule d to c");
        due("22: alike", true, () -> x.alike(c("bab"), c("abb")));
        due("22: not alike", false, () -> x.alike(c("bab"), c("aab")));
        due("22: one does not settle", false, () -> x.alike(c("c"), c("c")));
        due("22: the other does not", false, () -> x.alike(c("a"), c("d")));
        due("22: neither", false, () -> x.alike(c("d"), c("c")));
        due("22: itself", true, () -> x.alike(1, 1));
        BeastRules down = Kit.of(Machines.COUNT_DOWN + ";rule g to f");
        due("22: 200", true, () -> down.alike(c("gg" + Machines.digits(67) + "e"), c("ffaaaaaaae")));
        due("22: 201", false, () -> down.alike(c("ffg" + Machines.digits(67) + "e"), c("ffg" + Machines.digits(68) + "e")));
        due("22: 201", false, () -> down.alike(c("fffaaaaaaae"), c("ggg" + Machines.digits(67) + "e")));
        due("22: 201", false, () -> down.alike(c("ggg" + Machines.digits(67) + "e"), c("fffaaaaaaae")));
        for (long none : NO_CODES) {
            due("22: " + none, ARGUMENT, () -> x.alike(none, 8));
            due("22: " + none, ARGUMENT, () -> x.alike(8, none));
            due("22: " + none, ARGUMENT, () -> x.alike(c("c"), none));
        }
    }

    private static void promise32() {
        due("32: no RULES", NONE, () -> new BeastRules().endless());
        due("32: all settle", NONE, () -> Kit.of("rule ba to ab;rule c to .").endless());
        due("32: of one", c("b"), () -> Kit.of("rule b to c;rule c to b").endless());
        due("32: of two", c("ab"), () -> Kit.of("rule ba to ab;rule ab to ba").endless());
        due("32: of three", c("aba"), () -> Kit.of("rule aba to abb;rule abb to aba").endless());
        due("32: of four is not looked at", NONE, () -> Kit.of("rule abab to abba;rule abba to abab").endless());
        due("32: by BEASTS of LEFTS alone", NONE, () -> Kit.of("rule a to b;rule ca to cb").endless());
        due("32: settles when it is full", NONE, () -> Kit.of("rule a to aa").endless());
        due("32: by WAY", NONE, () -> Kit.of("rule a to b;rule a to a;rule b to c").endless());
        due("32: by WAY", c("a"), () -> Kit.of("rule a to a;rule a to b;rule b to c").endless());
        due("32: by THE LAW", c("aa"), () -> Kit.of("rule a to b;rule b to a", "bar if long < 2").endless());
        due("32: by THE LAW", NONE, () -> Kit.of("rule a to b;rule b to a", "bar if long < 4").endless());
        due("32: the last of three", c("hhh"), () -> Kit.of("rule a to c;rule hhh to hhh").endless());
        // f alone makes a number that is counted down in 100 STEPS, or 101.
        String down = Machines.COUNT_DOWN + ";rule d to bbbab;rule g to h;rule f to ";
        String law = "bar if rule < 4 and rule > 2 and long < 5; bar if rule > 4 and long > 1";
        due("32: 100 STEPS", NONE, () -> Kit.of(down + "ddgde", law).endless());
        due("32: 101 STEPS", c("f"), () -> Kit.of(down + "dagde", law).endless());
    }

    private static void promise33() {
        due("33: adds", NONE, () -> Kit.of("rule b to .").reckons(0, 4));
        due("33: does not at once", c("b"), () -> Kit.of("rule c to .").reckons(0, 0));
        due("33: the first by I, then J", c("ba"), () -> Kit.of("rule ba to b;rule b to .").reckons(0, 4));
        due("33: I ahead of J", c("ab"), () -> Kit.of("rule ab to .;rule b to .").reckons(0, 4));
        due("33: within N", NONE, () -> Kit.of("rule bbbb to c;rule ba to ab;first left").reckons(1, 3));
        due("33: sorts", NONE, () -> Kit.of("rule ba to ab").reckons(1, 4));
        due("33: sorts none", NONE, () -> new BeastRules().reckons(1, 0));
        due("33: sorts one", NONE, () -> new BeastRules().reckons(1, 1));
        due("33: sorts not", c("ba"), () -> new BeastRules().reckons(1, 2));
        due("33: just N BEASTS", c("aaba"), () -> Kit.of("rule ba to ab", "bar if place > 1").reckons(1, 4));
        due("33: within 200 STEPS", NONE, () -> Kit.of(Machines.CLEARED + "rule d to fggge;rule g to bbhh").reckons(3, 0));
        due("33: not within 201", c("d"), () -> Kit.of(Machines.CLEARED + "rule d to fgaae;rule g to baaaa").reckons(3, 0));
        due("33: by CODE", c("bbbb"), () -> Kit.of("rule bbbb to c;rule ba to ab").reckons(1, 4));
        due("33: copies nothing", NONE, () -> new BeastRules().reckons(2, 0));
        due("33: copies", c("ac"), () -> new BeastRules().reckons(2, 1));
        due("33: copies", NONE, () -> Kit.of("rule ac to aca", "bar if long > 2").reckons(2, 1));
        due("33: copies", c("aac"), () -> Kit.of("rule ac to aca", "bar if long > 2").reckons(2, 4));
        due("33: halves none", c("d"), () -> new BeastRules().reckons(3, 0));
        due("33: halves", NONE, () -> Kit.of("rule aad to da;rule d to .").reckons(3, 4));
        due("33: halves not", c("aad"), () -> Kit.of("rule d to .").reckons(3, 4));
        BeastRules x = new BeastRules();
        due("33: N", ARGUMENT, () -> x.reckons(0, -1));
        due("33: N", ARGUMENT, () -> x.reckons(0, 5));
        due("33: kind", ARGUMENT, () -> x.reckons(-1, 0));
        due("33: kind", ARGUMENT, () -> x.reckons(4, 0));
    }

    private static void promise34() {
        BeastRules x = Kit.of("rule a to b;rule b to a;rule c to c;rule d to e;field a;field c;field d;field .");
        due("34: of none", 0, () -> x.dropped(0));
        due("34: of one that settles", 0, () -> x.dropped(4 + 8));
        due("34: of two the least", 1, () -> x.dropped(1));
        due("34: the one", 4, () -> x.dropped(2));
        due("34: both", 5, () -> x.dropped(3));
        due("34: all", 5, () -> x.dropped(-1));
        due("34: of none that is there", 0, () -> x.dropped(0x30));
        due("34: nothing is dropped", 4, () -> x.count(0));
        due("34: fewest ahead of least", 4, () -> Kit.of("rule a to b;rule a to b;rule b to a;field a").dropped(1));
        BeastRules late = Kit.of("rule d to d" + ";rule d to d".repeat(7) + ";rule a to a;field a");
        due("34: RULE 8 cannot be dropped", NONE, () -> late.dropped(1));
        BeastRules eight = Kit.of("rule a to a" + ";rule a to a".repeat(7) + ";field a");
        due("34: all eight", 255, () -> eight.dropped(1));
        BeastRules law = Kit.of("rule b to b;rule a to a;rule a to c;field a", "bar if rule > 1");
        due("34: the others keep their numbers", 2, () -> law.dropped(1));
        due("34: two fewest", 3, () -> Kit.of("rule a to a;rule b to b;field ab").dropped(1));
        due("34: nothing of WAY 0", 2, () -> Kit.of("rule a to b;rule b to b;field aab;first right").dropped(1));
        due("34: by WAY", 0, () -> Kit.of("rule aab to .;rule b to b;field aab;first left").dropped(1));
        due("34: by WAY", 2, () -> Kit.of("rule aab to .;rule b to b;field aab;first right").dropped(1));
        BeastRules down = Kit.of(Machines.COUNT_DOWN + ";rule g to h;field " + Machines.digits(34) + "e;field g" + Machines.digits(34) + "e");
        due("34: 100 STEPS", 0, () -> down.dropped(1));
        due("34: 101 STEPS", 1, () -> down.dropped(2));
        BeastRules twelve = Kit.of("rule h to h" + ";rule h to h".repeat(6) + ";rule a to a;rule a to c;field a");
        due("34: RULE 7", 128, () -> twelve.dropped(1));
    }

    // ---- searches

    private static void promise23() {
        BeastRules x = Kit.of("rule a to b;rule a to cc;rule cb to .");
        // Behind 1: bb.. ; aa becomes ba, cca, ab, acc.
        due("23: itself", 1, () -> x.becomes(c("aa"), 0, 0));
        due("23: one STEP", 5, () -> x.becomes(c("aa"), 1, 0));
        due("23: most BEASTS", 3, () -> x.becomes(c("aa"), 1, 1));
        due("23: none SETTLED", 0, () -> x.becomes(c("aa"), 1, 2));
        due("23: none", NONE, () -> x.becomes(c("aa"), 1, 3));
        // two STEPS: bb, bcc, ccb, cccc; three: c.
        due("23: two STEPS", 9, () -> x.becomes(c("aa"), 2, 0));
        due("23: most BEASTS", 4, () -> x.becomes(c("aa"), 2, 1));
        due("23: SETTLED", 3, () -> x.becomes(c("aa"), 2, 2));
        due("23: the least", c("bb"), () -> x.becomes(c("aa"), 2, 3));
        due("23: three STEPS", 10, () -> x.becomes(c("aa"), 3, 0));
        due("23: SETTLED", 4, () -> x.becomes(c("aa"), 40, 2));
        due("23: the least", c("c"), () -> x.becomes(c("aa"), 40, 3));
        due("23: none there", 1, () -> x.becomes(1, 40, 0));
        due("23: none there", 0, () -> x.becomes(1, 40, 1));
        due("23: none there", 1, () -> x.becomes(1, 40, 3));
        due("23: N", ARGUMENT, () -> x.becomes(8, -1, 0));
        due("23: N", ARGUMENT, () -> x.becomes(8, 41, 0));
        due("23: what", ELEMENT, () -> x.becomes(8, 1, 4));
        due("23: what", ELEMENT, () -> x.becomes(8, 1, -1));
        due("23: N is told first", ARGUMENT, () -> x.becomes(8, 41, 4));
        for (long none : NO_CODES) {
            due("23: " + none, ARGUMENT, () -> x.becomes(none, 1, 4));
        }
        // a's of 11 that each can be b: 2048 in all; within 5 STEPS 1 + 11 + 55 + 165 + 330 + 462 = 1024.
        BeastRules many = Kit.of("rule a to b");
        due("23: 1024", 1024, () -> many.becomes(c(a(11)), 5, 0));
        due("23: 1486", 1486, () -> many.becomes(c(a(11)), 6, 0));
        due("23: too many", -3, () -> many.becomes(c(a(11)), 7, 0));
        due("23: too many", -3, () -> many.becomes(c(a(11)), 7, 3));
        promise23Edges();
    }

    private static void promise23Edges() {
        BeastRules all = Kit.of("rule a to aa;first all");
        due("23: any order, whatever WAY", 11, () -> all.becomes(c(a(10)), 40, 0));
        due("23: SETTLED by WAY: 11 to 20", 10, () -> all.becomes(c(a(10)), 40, 2));
        due("23: SETTLED by WAY", c(a(11)), () -> all.becomes(c(a(10)), 40, 3));
        BeastRules left = Kit.of("rule a to aa");
        due("23: SETTLED by WAY: 20", 1, () -> left.becomes(c(a(10)), 40, 2));
        due("23: 40 STEPS", 20, () -> left.becomes(c("a"), 40, 0));
        BeastRules law = Kit.of("rule a to b", "bar if place > 0");
        due("23: by THE LAW", 2, () -> law.becomes(c("aaa"), 40, 0));
        due("23: 1500", 1500, () -> Machines.most().becomes(c(a(11)), 6, 0));
        due("23: 1501", -3, () -> Machines.tooMany().becomes(c(a(11)), 6, 0));
        due("24: 1500", 6, () -> Machines.most().fewest(c(a(11)), c("d" + a(7))));
        due("24: 1501", -3, () -> Machines.tooMany().fewest(c(a(11)), c("d" + a(7))));
        due("25: 1500", 0, () -> Machines.most().meets(c(a(11)), c(a(11)), 6, false));
        due("25: 1501", -3, () -> Machines.tooMany().meets(c(a(11)), c(a(11)), 6, false));
        due("38: 1500", 0, () -> Machines.most().drovers(c(a(11)), 6));
        due("38: 1501", -3, () -> Machines.tooMany().drovers(c(a(11)), 6));
    }

    private static void promise24() {
        BeastRules x = Kit.of("rule ba to ab;rule a to c");
        due("24: none", 0, () -> x.fewest(c("ba"), c("ba")));
        due("24: one", 1, () -> x.fewest(c("ba"), c("ab")));
        due("24: two", 2, () -> x.fewest(c("ba"), c("cb")));
        due("24: any order", 1, () -> x.fewest(c("ba"), c("bc")));
        due("24: never", NONE, () -> x.fewest(c("ab"), c("ba")));
        due("24: never", NONE, () -> x.fewest(1, 8));
        due("24: itself", 0, () -> x.fewest(1, 1));
        BeastRules two = Kit.of("rule a to b;rule b to c;rule a to c");
        due("24: the fewest", 1, () -> two.fewest(c("a"), c("c")));
        BeastRules many = Kit.of("rule a to b");
        due("24: within 1486", 6, () -> many.fewest(c(a(11)), c("bbbbbb" + a(5))));
        due("24: past 1500", -3, () -> many.fewest(c(a(11)), c("bbbbbbb" + a(4))));
        due("24: past 1500 in the search for none", -3, () -> many.fewest(c(a(11)), c("c")));
        due("24: 1024, and none", NONE, () -> many.fewest(c(a(10)), c("c")));
        BeastRules deep = Kit.of("rule ba to ab");
        due("24: 36 STEPS", 36, () -> deep.fewest(c("bbbbbbaaaaaa"), c("aaaaaabbbbbb")));
        due("24: 25 STEPS", 25, () -> deep.fewest(c("bbbbbaaaaa"), c("aaaaabbbbb")));
        for (long none : NO_CODES) {
            due("24: " + none, ARGUMENT, () -> x.fewest(none, 8));
            due("24: " + none, ARGUMENT, () -> x.fewest(8, none));
        }
    }

    private static void promise25() {
        BeastRules x = Kit.of("rule a to c;rule b to c;rule c to d");
        due("25: both go", 2, () -> x.meets(c("a"), c("b"), 12, false));
        due("25: where", c("c"), () -> x.meets(c("a"), c("b"), 12, true));
        due("25: one goes", 1, () -> x.meets(c("a"), c("c"), 1, false));
        due("25: the other goes", 1, () -> x.meets(c("c"), c("b"), 1, false));
        due("25: each within N", 2, () -> x.meets(c("a"), c("b"), 1, false));
        due("25: not within N", NONE, () -> x.meets(c("a"), c("b"), 0, false));
        due("25: not within N", NONE, () -> x.meets(c("a"), c("b"), 0, true));
        due("25: not within N for one of them", NONE, () -> x.meets(c("a"), c("d"), 1, false));
        due("25: at once", 0, () -> x.meets(c("a"), c("a"), 0, false));
        due("25: at once", c("a"), () -> x.meets(c("a"), c("a"), 0, true));
        due("25: never", NONE, () -> x.meets(c("a"), c("e"), 12, false));
        BeastRules least = Kit.of("rule a to d;rule a to c;rule b to d;rule b to c");
        due("25: the least of several", c("c"), () -> least.meets(c("a"), c("b"), 12, true));
        BeastRules far = Kit.of("rule d to c;rule c to b;rule b to a;rule e to b;rule e to d");
        due("25: the fewest ahead of the least", c("d"), () -> far.meets(c("d"), c("e"), 12, true));
        due("25: the fewest", 1, () -> far.meets(c("d"), c("e"), 12, false));
        BeastRules many = Kit.of("rule a to b");
        due("25: the one comes to too many", -3, () -> many.meets(c(a(11)), 8, 7, false));
        due("25: the other comes to too many", -3, () -> many.meets(8, c(a(11)), 7, true));
        due("25: neither does", NONE, () -> many.meets(8, c(a(11)), 6, true));
        due("25: N", ARGUMENT, () -> x.meets(8, 8, 13, true));
        due("25: N", ARGUMENT, () -> x.meets(8, 8, -1, true));
        for (long none : NO_CODES) {
            due("25: " + none, ARGUMENT, () -> x.meets(none, 8, 1, true));
            due("25: " + none, ARGUMENT, () -> x.meets(8, none, 1, true));
        }
    }

    private static void promise38() {
        BeastRules x = Kit.of("rule a to .");
        due("38: one turn", 1, () -> x.drovers(c("a"), 2));
        due("38: two turns", -1, () -> x.drovers(c("aa"), 3));
        due("38: nobody yet", 0, () -> x.drovers(c("a"), 1));
        due("38: nobody, though nobody could go on", 0, () -> x.drovers(c("aa"), 2));
        due("38: cannot go on at once", -1, () -> x.drovers(c("b"), 1));
        due("38: none there", -1, () -> x.drovers(1, 8));
        due("38: seven turns", 1, () -> x.drovers(c(a(7)), 8));
        due("38: eight turns", 0, () -> x.drovers(c(a(8)), 8));
        // Taking one or two of them: who is left three loses.
        BeastRules nim = Kit.of("rule a to .;rule aa to .");
        for (int many = 1; many <= 7; many++) {
            int n = many;
            due("38: " + n + " of them", n % 3 == 0 ? -1 : 1, () -> nim.drovers(c(a(n)), 8));
        }
        // Nobody wins ahead of losing: a to b loses, a to c goes round.
        BeastRules round = Kit.of("rule a to b;rule b to d;rule a to c;rule c to c");
        due("38: nobody ahead of losing", 0, () -> round.drovers(c("a"), 8));
        BeastRules law = Kit.of("rule a to .", "bar if long < 2");
        due("38: by THE LAW", 1, () -> law.drovers(c("aa"), 8));
        BeastRules many = Kit.of("rule a to b");
        due("38: within 6 turns", 0, () -> many.drovers(c(a(11)), 6));
        due("38: too many", -3, () -> many.drovers(c(a(11)), 7));
        BeastRules all = Kit.of("rule a to .;first all");
        due("38: whatever WAY", -1, () -> all.drovers(c("aa"), 8));
        due("38: N", ARGUMENT, () -> x.drovers(8, 0));
        due("38: N", ARGUMENT, () -> x.drovers(8, 9));
        for (long none : NO_CODES) {
            due("38: " + none, ARGUMENT, () -> x.drovers(none, 1));
        }
    }

    private static void promise39() {
        BeastRules nim = Kit.of("rule a to .;rule aa to .");
        due("39: one of four", 0, () -> nim.best(c(a(4)), 8));
        due("39: two of five", 1, () -> nim.best(c(a(5)), 8));
        due("39: the first, though all lose", 0, () -> nim.best(c(a(3)), 8));
        due("39: none", NONE, () -> nim.best(c("b"), 8));
        due("39: none there", NONE, () -> nim.best(1, 1));
        BeastRules x = Kit.of("rule b to c;rule a to .;rule ab to e;rule c to c");
        // At 0: a away leaves b, which becomes c for ever; ab to e wins.
        due("39: by RULE", 2, () -> x.best(c("ab"), 8));
        due("39: it wins", 1, () -> x.drovers(c("ab"), 8));
        BeastRules places = Kit.of("rule a to .;rule b to c;rule c to c");
        // ab with b to c goes round for ever; a away, then b to c as well.
        due("39: by PLACE", 0, () -> places.best(c("ab"), 8));
        BeastRules far = Kit.of("rule d to c;rule c to c;rule ab to .");
        due("39: PLACE times 100", 102, () -> far.best(c("eab"), 8));
        due("39: PLACE times 100", 1702, () -> far.best(c("e".repeat(17) + "ab"), 8));
        due("39: with one turn all are alike", 0, () -> nim.best(c(a(5)), 1));
        BeastRules many = Kit.of("rule a to b");
        due("39: too many", -3, () -> many.best(c(a(11)), 7));
        due("39: N", ARGUMENT, () -> nim.best(8, 0));
        due("39: N", ARGUMENT, () -> nim.best(8, 9));
        for (long none : NO_CODES) {
            due("39: " + none, ARGUMENT, () -> nim.best(none, 1));
        }
    }

    // ---- RULES looked at

    private static void promise26() {
        due("26: none", 0, () -> new BeastRules().overlaps(0));
        due("26: none", 0, () -> new BeastRules().overlaps(1));
        due("26: none", NONE, () -> new BeastRules().overlaps(2));
        due("26: with itself", 1, () -> Kit.of("rule aa to a").overlaps(0));
        due("26: with itself by 1 and 2", 2, () -> Kit.of("rule aaa to a").overlaps(0));
        due("26: all of both is none", 0, () -> Kit.of("rule a to b").overlaps(0));
        due("26: one after the other", 1, () -> Kit.of("rule ab to c;rule bd to c").overlaps(0));
        due("26: unlike", 1, () -> Kit.of("rule ab to c;rule bd to c").overlaps(1));
        due("26: the word", c("abd"), () -> Kit.of("rule ab to c;rule bd to c").overlaps(2));
        due("26: within", 1, () -> Kit.of("rule abc to d;rule b to .").overlaps(0));
        due("26: the word", c("abc"), () -> Kit.of("rule abc to d;rule b to .").overlaps(2));
        due("26: at two PLACES", 2, () -> Kit.of("rule baac to d;rule a to .").overlaps(0));
        due("26: alike LEFTS, both ways", 2, () -> Kit.of("rule a to b;rule a to c").overlaps(0));
        due("26: both unlike", 2, () -> Kit.of("rule a to b;rule a to c").overlaps(1));
        due("26: alike in the end", 0, () -> Kit.of("rule a to b;rule a to c;rule c to b").overlaps(1));
        due("26: those within come behind all others", c("bcbcb"),
                () -> Kit.of("rule abd to .;rule a to e;rule bcb to f").overlaps(2));
        due("26: by P, then Q", c("cdabc"), () -> Kit.of("rule cda to g;rule abc to e").overlaps(2));
        due("26: by P, then Q", c("abcda"), () -> Kit.of("rule abc to e;rule cda to g").overlaps(2));
        due("26: by P, then Q, then K", c("abab" + "ab"), () -> Kit.of("rule abab to c").overlaps(2));
        due("26: K of 1 first", c("aaa" + "aa"), () -> Kit.of("rule aaa to b").overlaps(2));
        String down = "rule b to ca;rule ac to cb;rule ec to e;rule f to ehh;rule h to aaa;rule g to .;rule f to ";
        due("26: 100 STEPS", 0, () -> Kit.of(down + "edbgg;rule d to baaaa").overlaps(1));
        due("26: 101 STEPS", 2, () -> Kit.of(down + "edb;rule d to abaaa").overlaps(1));
        due("26: one that does not settle is unlike", 1, () -> Kit.of("rule aa to b;rule b to c;rule c to b").overlaps(1));
        due("26: by left, whatever WAY", 0, () -> Kit.of("rule aa to a;first all").overlaps(1));
        due("26: THE LAW not looked at", 0, () -> Kit.of("rule aa to a", "bar").overlaps(1));
        due("26: what", ELEMENT, () -> new BeastRules().overlaps(3));
        due("26: what", ELEMENT, () -> new BeastRules().overlaps(-1));
        BeastRules x = Kit.of("rule ab to c;rule bd to c");
        x.overlaps(2);
        due("26: nothing happens", 2, () -> x.count(0));
    }

    private static void promise27() {
        BeastRules x = Kit.of("rule ab to c;rule bd to e");
        // abd becomes cd, or ae: ae is less, so cd becomes ae.
        due("27: its number", 2, () -> x.complete());
        due("27: LEFT is the greater", c("cd"), () -> x.rule(2, false));
        due("27: RIGHT is the lesser", c("ae"), () -> x.rule(2, true));
        due("27: an act", 1, () -> x.count(10));
        due("27: none more", NONE, () -> x.complete());
        due("27: no act", 1, () -> x.count(10));
        due("27: undone", true, () -> x.undo());
        due("27: undone", 2, () -> x.count(0));
        BeastRules longer = Kit.of("rule ab to hhh;rule b to .");
        // ab becomes hhh, or a: more BEASTS are greater.
        due("27: by BEASTS", 2, () -> longer.complete());
        due("27: by BEASTS", c("hhh"), () -> longer.rule(2, false));
        due("27: by BEASTS", c("a"), () -> longer.rule(2, true));
        due("27: LEFT of 5", NONE, () -> Kit.of("rule ab to hhhhh;rule b to .").complete());
        due("27: RIGHT none", 2, () -> Kit.of("rule a to h;rule a to .").complete());
        due("27: none unlike", NONE, () -> Kit.of("rule aa to a").complete());
        due("27: no RULES", NONE, () -> new BeastRules().complete());
        BeastRules skipping = Kit.of("rule aa to b;rule b to c;rule c to b;rule de to f;rule eg to h");
        due("27: past one that does not settle", 5, () -> skipping.complete());
        due("27: the one that does", c("fg"), () -> skipping.rule(5, false));
        due("27: the one that does", c("dh"), () -> skipping.rule(5, true));
        BeastRules first = Kit.of("rule ab to hhhhh;rule bc to .;rule de to f;rule eg to h");
        due("27: the first alone counts", NONE, () -> first.complete());
        BeastRules full = Kit.of("rule ab to c;rule bd to e" + ";rule h to h".repeat(10));
        due("27: 12 RULES", UNSUPPORTED, () -> full.complete());
        due("27: nothing happened", 12, () -> full.count(0));
        due("27: no act", 0, () -> full.count(10));
        BeastRules none = Kit.of("rule a to b" + ";rule a to b".repeat(11));
        due("27: 12 RULES, and none", NONE, () -> none.complete());
        due("27: THE LAW not looked at", 2, () -> Kit.of("rule ab to c;rule bd to e", "bar").complete());
    }

    private static void promise28() {
        BeastRules x = Kit.of("rule ab to ba");
        due("28: another number of a", 2, () -> x.never(c("a"), c("aa"), NONE));
        due("28: the weight of a", 1, () -> x.never(c("a"), c("aa"), 0));
        due("28: the weight of b", 0, () -> x.never(c("a"), c("aa"), 1));
        due("28: others 0", 0, () -> x.never(c("a"), c("aa"), 7));
        due("28: two a more need 3", 3, () -> x.never(c("a"), c("aaa"), NONE));
        due("28: the least weight", 1, () -> x.never(c("a"), c("aaa"), 0));
        due("28: by a, then b", 0, () -> x.never(c("ab"), c("aabb"), 0));
        due("28: by a, then b", 1, () -> x.never(c("ab"), c("aabb"), 1));
        due("28: none", NONE, () -> x.never(c("ab"), c("ba"), NONE));
        due("28: none", NONE, () -> x.never(c("ab"), c("ba"), 0));
        due("28: of those told alone", 2, () -> x.never(c("h"), 1, NONE));
        due("28: of those told alone", 1, () -> x.never(c("h"), 1, 7));
        due("28: 60 of them", NONE, () -> Kit.of("rule a to .").never(c(a(20)), 1, NONE));
        BeastRules three = Kit.of("rule aaa to .");
        due("28: modulo 3", 3, () -> three.never(c("a"), 1, NONE));
        due("28: modulo 4", 4, () -> Kit.of("rule aaaa to .").never(c("aa"), 1, NONE));
        // b is 3 a, and 2 b are a.
        BeastRules five = Kit.of("rule b to aaa;rule bb to a");
        due("28: modulo 5", 5, () -> five.never(c("a"), 1, NONE));
        due("28: modulo 5", 1, () -> five.never(c("a"), 1, 0));
        due("28: modulo 5", 3, () -> five.never(c("a"), 1, 1));
        due("28: no RULES", 2, () -> new BeastRules().never(c("b"), c("c"), NONE));
        due("28: the first by a ahead", 0, () -> new BeastRules().never(c("b"), c("c"), 1));
        due("28: the first by a ahead", 1, () -> new BeastRules().never(c("b"), c("c"), 2));
        due("28: nothing at all", NONE, () -> new BeastRules().never(1, 1, NONE));
        due("28: six", 2, () -> Kit.of("rule abc to def").never(c("a"), 1, NONE));
        due("28: seven", -3, () -> Kit.of("rule abc to def").never(c("g"), 1, NONE));
        due("28: seven", -3, () -> Kit.of("rule abc to def").never(1, c("h"), 3));
        due("28: seven of RULES", -3, () -> Kit.of("rule abc to def;rule g to a").never(1, 1, NONE));
        due("28: no such BEAST", INDEX, () -> x.never(1, 1, 8));
        due("28: no such BEAST", INDEX, () -> x.never(1, 1, -2));
        for (long none : NO_CODES) {
            due("28: " + none, ARGUMENT, () -> x.never(none, 1, 8));
            due("28: " + none, ARGUMENT, () -> x.never(1, none, -2));
        }
    }

    private static void promise29() {
        BeastRules x = Kit.of("rule a to bb;rule b to cc");
        // c is 1, b 3, a 7: too much.
        due("29: not by 5", 0, () -> x.falls(5, NONE));
        due("29: not by 5", NONE, () -> x.falls(5, 0));
        BeastRules y = Kit.of("rule a to bb;rule b to c");
        // c 1, b 2, a 5.
        due("29: by 5", 1, () -> y.falls(5, NONE));
        due("29: a", 5, () -> y.falls(5, 0));
        due("29: b", 2, () -> y.falls(5, 1));
        due("29: c", 1, () -> y.falls(5, 2));
        due("29: others", 0, () -> y.falls(5, 3));
        due("29: not by 4", 0, () -> y.falls(4, NONE));
        due("29: fewer BEASTS", 1, () -> Kit.of("rule aa to b").falls(1, NONE));
        due("29: alike", 0, () -> Kit.of("rule ab to ba").falls(5, NONE));
        due("29: the least by a, then b", 1, () -> Kit.of("rule ab to c;rule c to a").falls(5, 0));
        due("29: the least by a, then b", 2, () -> Kit.of("rule ab to c;rule c to a").falls(5, 1));
        due("29: the least by a, then b", 2, () -> Kit.of("rule ab to c;rule c to a").falls(5, 2));
        due("29: no RULES", 1, () -> new BeastRules().falls(1, NONE));
        due("29: no RULES", 0, () -> new BeastRules().falls(1, 0));
        due("29: six", 1, () -> Kit.of("rule abc to de;rule f to .").falls(1, NONE));
        due("29: seven", -3, () -> Kit.of("rule abc to de;rule fg to .").falls(1, NONE));
        due("29: seven", -3, () -> Kit.of("rule abc to de;rule fg to .").falls(1, 7));
        due("29: W", ARGUMENT, () -> x.falls(0, NONE));
        due("29: W", ARGUMENT, () -> x.falls(6, 9));
        due("29: no such BEAST", INDEX, () -> x.falls(1, 8));
        due("29: no such BEAST", INDEX, () -> x.falls(1, -2));
    }

    private static void promise30and31() {
        BeastRules x = Kit.of("weight a 0;weight b 99;weight h 7;rule b to aah;rule h to bb;rule a to .");
        due("30: none there", 0, () -> x.light(1));
        due("30: a b c h", 107, () -> x.light(c("abch")));
        due("30: 20 b", 1980, () -> x.light(c("b".repeat(20))));
        due("31: falls", 92, () -> x.loss(0));
        due("31: grows", -191, () -> x.loss(1));
        due("31: neither", 0, () -> x.loss(2));
        due("31: no such RULE", INDEX, () -> x.loss(3));
        due("31: no such RULE", INDEX, () -> x.loss(-1));
        for (long none : NO_CODES) {
            due("30: " + none, ARGUMENT, () -> x.light(none));
        }
    }

    private static void promise35() {
        BeastRules x = Kit.of("rule a to b;rule aa to ba;seen aa to ba;seen aa to ab;seen aa to bb;seen . to .", "bar");
        due("35: both", 3, () -> x.explained(0));
        due("35: at another PLACE, THE LAW not looked at", 1, () -> x.explained(1));
        due("35: not by two uses", 0, () -> x.explained(2));
        due("35: nothing there", 0, () -> x.explained(3));
        due("35: no such SEEN", INDEX, () -> x.explained(4));
        due("35: no such SEEN", INDEX, () -> x.explained(-1));
        BeastRules last = Kit.of("rule h to g" + ";rule h to g".repeat(10) + ";rule a to .");
        Kit.valley(last, "seen ca to c");
        due("35: RULE 11", 2048, () -> last.explained(0));
    }

    private static void promise36() {
        due("36: no SEEN", 0, () -> Kit.of("rule a to b").telling());
        due("36: no RULE", NONE, () -> Kit.of("seen a to b").telling());
        due("36: the least of several", 1, () -> Kit.of("rule a to b;rule a to b;seen a to b").telling());
        due("36: one ahead of two", 4, () -> Kit.of("rule ca to cb;rule da to db;rule a to b;seen ca to cb;seen da to db").telling());
        due("36: two", 3, () -> Kit.of("rule a to b;rule b to c;rule c to d;seen a to b;seen b to c").telling());
        due("36: the least of two", 5, () -> Kit.of("rule a to b;rule c to d;rule b to c;rule b to c;seen a to b;seen b to c").telling());
        due("36: one is not told", NONE, () -> Kit.of("rule a to b;seen a to b;seen b to a").telling());
    }

    private static void promise37() {
        due("37: no SEEN", 0, () -> new BeastRules().guessed(0));
        due("37: no SEEN", NONE, () -> new BeastRules().guessed(1));
        due("37: no SEEN", NONE, () -> new BeastRules().guessed(2));
        BeastRules x = Kit.of("seen abc to adc");
        // b to d, ab to ad, bc to dc, abc to adc.
        due("37: four", 4, () -> x.guessed(0));
        due("37: LEFT", c("b"), () -> x.guessed(1));
        due("37: RIGHT", c("d"), () -> x.guessed(2));
        BeastRules two = Kit.of("seen abc to adc;seen eabe to eade");
        due("37: both", 2, () -> two.guessed(0));
        due("37: both", c("b"), () -> two.guessed(1));
        BeastRules ab = Kit.of("seen abc to adc;seen bab to bad;seen abb to adb");
        due("37: three SEEN", 2, () -> ab.guessed(0));
        BeastRules none = Kit.of("seen a to b;seen a to c");
        due("37: none", 0, () -> none.guessed(0));
        due("37: none", NONE, () -> none.guessed(1));
        due("37: none", NONE, () -> none.guessed(2));
        due("37: nothing becomes nothing", 0, () -> Kit.of("seen . to .").guessed(0));
        due("37: nothing becomes a", 0, () -> Kit.of("seen . to a").guessed(0));
        due("37: the same is none", 0, () -> Kit.of("seen aa to aa").guessed(0));
        // b to ba at the first PLACE, b to ab at the second, bb to bab.
        due("37: several RIGHTS", 3, () -> Kit.of("seen bb to bab").guessed(0));
        due("37: several RIGHTS", c("b"), () -> Kit.of("seen bb to bab").guessed(1));
        due("37: by CODE of RIGHT", c("ab"), () -> Kit.of("seen bb to bab").guessed(2));
        // a to none, aa to a: the least number of LEFT first.
        due("37: a to none, aa to a, aaa to aa", 3, () -> Kit.of("seen aaaa to aaa").guessed(0));
        due("37: LEFT", c("a"), () -> Kit.of("seen aaaa to aaa").guessed(1));
        due("37: RIGHT", 1, () -> Kit.of("seen aaaa to aaa").guessed(2));
        due("37: by CODE of LEFT", c("a"), () -> Kit.of("seen ba to b;seen ba to b").guessed(1));
        // ab to b by a to none, ab to b; ba alike: of ab and ba at their PLACES.
        due("37: three at once", c("abc"), () -> Kit.of("seen abc to .").guessed(1));
        due("37: four are too many", 0, () -> Kit.of("seen abcd to .").guessed(0));
        due("37: RIGHT two longer", 1, () -> Kit.of("seen a to aaa").guessed(0));
        due("37: RIGHT of 3", c("bab"), () -> Kit.of("seen a to bab").guessed(2));
        due("37: RIGHT of 4 is too many", 0, () -> Kit.of("seen a to baba").guessed(0));
        due("37: a told one, too", 1, () -> Kit.of("rule a to b;seen a to b").guessed(0));
        // abab to ab: ab at 0 or 2, ba; aba to a, bab to b.
        due("37: at several PLACES once", 4, () -> Kit.of("seen abab to ab").guessed(0));
        due("37: the least LEFT", c("ab"), () -> Kit.of("seen abab to ab").guessed(1));
        due("37: the least LEFT at a later PLACE", c("ab"), () -> Kit.of("seen baba to ba").guessed(1));
        due("37: what", ELEMENT, () -> x.guessed(3));
        due("37: what", ELEMENT, () -> x.guessed(-1));
    }

    private static void promise40() {
        due("40: IDLE without RULES", 255, () -> new BeastRules().sorts(0));
        due("40: UNBORN without RULES", 255, () -> new BeastRules().sorts(1));
        BeastRules x = Kit.of("rule ah to b;rule a to .;rule b to cd;rule c to d");
        due("40: IDLE", 255 - 1 - 128 - 2 - 4, () -> x.sorts(0));
        due("40: UNBORN", 255 - 2 - 4 - 8, () -> x.sorts(1));
        due("40: WOLVES", 3, () -> x.sorts(2));
        due("40: BREEDERS", 4, () -> x.sorts(3));
        due("40: what", ELEMENT, () -> x.sorts(4));
        due("40: what", ELEMENT, () -> x.sorts(-1));
    }

    // ---- SEED, acts undone, THE IMAGE

    private static void promise41() {
        BeastRules x = Kit.of("rule a to b;field a");
        due("41: at first", 1, () -> x.seed(-5));
        due("41: told", -5, () -> x.seed(Integer.MIN_VALUE));
        due("41: told", Integer.MIN_VALUE, () -> x.seed(0));
        due("41: no act", 0, () -> x.count(10));
        x.years(0, 1);
        // 0 goes to 12345, and on to another, as a fits.
        due("41: drawn", 12345 * 1103515245 + 12345, () -> x.seed(0));
        x.put(0, 8);
        x.seed(9);
        due("41: undone with the act", true, () -> x.undo());
        due("41: as ahead of it", 0, () -> x.seed(0));
    }

    private static void promise42() {
        BeastRules x = Kit.of("rule a to b;field aaa;fog 0");
        due("42: none", false, () -> x.undo());
        x.use(0, 0, 2);
        x.run(0, 1);
        x.put(0, c("aaaa"));
        x.add(c("b"), c("c"));
        x.drop(0);
        x.years(0, 3);
        due("42: six acts", 6, () -> x.count(10));
        due("42: YEARS", true, () -> x.undo());
        due("42: YEAR", 0, () -> x.count(7));
        due("42: drop", true, () -> x.undo());
        due("42: back in its place", c("a"), () -> x.rule(0, false));
        due("42: add", true, () -> x.undo());
        due("42: RULES", 1, () -> x.count(0));
        due("42: put", true, () -> x.undo());
        due("42: as it was", c("bab"), () -> x.field(0));
        due("42: STEPS", 2, () -> x.steps(0));
        due("42: MAKERS", 2, () -> x.maker(0, 0, 1));
        due("42: run", true, () -> x.undo());
        due("42: as it was", c("aab"), () -> x.field(0));
        due("42: MAKERS", NONE, () -> x.maker(0, 0, 1));
        due("42: MAKERS", 1, () -> x.maker(0, 2, 1));
        due("42: use", true, () -> x.undo());
        due("42: as it was", c("aaa"), () -> x.field(0));
        due("42: none more", false, () -> x.undo());
        for (int i = 0; i < 20; i++) {
            x.put(0, c(a(i)));
        }
        due("42: 16 are remembered", 16, () -> x.count(10));
        for (int i = 18; i > 2; i--) {
            int many = i;
            x.undo();
            due("42: " + many, c(a(many)), () -> x.field(0));
        }
        due("42: no 17th", false, () -> x.undo());
        due("42: it stays", c(a(3)), () -> x.field(0));
        promise42Forgets();
    }

    private static void promise42Forgets() {
        BeastRules x = Kit.of("rule a to b;field a");
        x.put(0, 1);
        x.feed(0x666f6720, 0x35202020, 0, 0, 0);
        due("42: not the TAPE", true, () -> x.undo() && x.end(20));
        x.end(0);
        x.put(0, 1);
        due("42: a wrong text", ARGUMENT, () -> Kit.valley(x, "x"));
        due("42: remembered for all that", 1, () -> x.count(10));
        due("42: undone", true, () -> x.undo());
        due("42: not fault()", 0, () -> x.fault());
        x.put(0, 1);
        due("42: a wrong law", ARGUMENT, () -> Kit.law(x, "x"));
        due("42: remembered for all that", 1, () -> x.count(10));
        Kit.valley(x, "");
        due("42: none behind a text", false, () -> x.undo());
        x.put(0, 8);
        Kit.law(x, "");
        due("42: none behind a law", false, () -> x.undo());
        x.put(0, 9);
        x.image();
        due("42: remembered behind an image", 1, () -> x.count(10));
        due("42: undone", true, () -> x.undo());
        due("42: not THE IMAGE", true, () -> x.back());
        due("42: not THE IMAGE", 9, () -> x.field(0));
        x.put(0, 1);
        x.back();
        due("42: none behind going back", false, () -> x.undo());
        x.put(0, 1);
        due("42: a call that throws", ARGUMENT, () -> x.put(0, 0));
        due("42: is no act", 1, () -> x.count(10));
    }

    private static void promise43and44() {
        BeastRules x = Kit.of("rule a to b;field aaa;seen a to b;fog 7;weight a 3;first right", "bar if place > 1");
        due("44: none kept", false, () -> x.back());
        x.seed(77);
        x.run(0, 1);
        x.image();
        Kit.valley(x, "drop 0;rule c to d;rule d to e;field b;seen b to c;fog 50;weight a 4;first all");
        Kit.law(x, "bar;bar");
        x.put(0, 1);
        x.years(1, 5);
        x.seed(5);
        x.feed(0x666f6720, 0x35202020, 0, 0, 0);
        due("44: kept", true, () -> x.back());
        int[] was = {1, 1, 1, 1, 1, 1, 7, 0, 1, 3, 0};
        for (int what = 0; what < was.length; what++) {
            int w = what;
            due("44: count(" + w + ")", was[w], () -> x.count(w));
        }
        due("44: FIELD", c("aba"), () -> x.field(0));
        due("44: MAKER", 0, () -> x.maker(0, 1, 0));
        due("44: RULE", c("a"), () -> x.rule(0, false));
        due("44: weight", 3, () -> x.light(8));
        due("44: SEED", 77, () -> x.seed(78));
        due("44: THE LAW", false, () -> x.fits(c("aaa"), 0, 2));
        due("44: THE LAW", true, () -> x.fits(c("aaa"), 0, 1));
        due("44: the TAPE stays", 40, () -> x.feed(0, 0, 0, 0, 0));
        x.end(0);
        due("44: fault", ARGUMENT, () -> Kit.law(x, "   x"));
        x.put(0, 8);
        due("44: again", true, () -> x.back());
        due("44: fault stays", 3, () -> x.fault());
        due("44: again", c("aba"), () -> x.field(0));
        due("44: SEED", 77, () -> x.seed(79));
        x.put(0, 9);
        x.image();
        x.put(0, 8);
        x.back();
        due("43: the one kept last", 9, () -> x.field(0));
        due("43: with its SEED", 79, () -> x.seed(79));
        BeastRules none = Kit.of("rule a to b");
        none.image();
        Kit.law(none, "bar");
        none.back();
        due("44: without a LAW", NONE, () -> none.count(4));
        due("44: nothing barred", true, () -> none.fits(8, 0, 0));
    }

    private static void promise45() {
        BeastRules x = Kit.of("rule a to b;rule b to c;rule c to d;field aaaa;field bb;seen a to b;fog 9;first rule", "bar if end;bar if rule > 5");
        Kit.valley(x, "seen . to .;seen . to .;seen . to .");
        x.run(0, 1);
        x.use(0, 0, 2);
        x.years(0, 4);
        int steps = x.steps(0) + x.steps(1);
        int[] all = {3, 2, 4, 2, 2, 2, 9, 4, steps, 6, 3};
        for (int what = 0; what < all.length; what++) {
            int w = what;
            due("45: count(" + w + ")", all[w], () -> x.count(w));
        }
        for (int none : new int[] {-1, 11, 12, Integer.MAX_VALUE, Integer.MIN_VALUE}) {
            due("45: count(" + none + ")", NONE, () -> x.count(none));
        }
        x.put(0, c("a"));
        due("45: BEASTS", 3, () -> x.count(9));
        due("45: STEPS", x.steps(1), () -> x.count(8));
    }
}

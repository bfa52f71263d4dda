/** The sentences of promises 14 to 19 and 41 to 45: acts, and what becomes of them. */
final class ActSentences extends Sentences {
    static void tests() {
        promise14();
        promise15();
        promise15Ways();
        promise15All();
        promise16();
        promise17();
        promise18();
        promise19();
        promise19Draws();
        promise19Seed();
        promise41();
        promise42();
        promise42Else();
        promise42Acts();
        promise43();
        promise44();
        promise45();
        exceptions();
        refusedCalls();
    }

    // ---- 14: a RULE is used

    private static void promise14() {
        test(14, "`long use(int field, int rule, int place) throws IndexOutOfBoundsException, IllegalStateException`:", () -> {
            BeastRules x = Kit.of("rule a to b;field a");
            due("no such FIELD, and no PLACE", INDEX, () -> x.use(1, 0, -1));
            due("no such RULE, and no PLACE", INDEX, () -> x.use(0, 1, -1));
            for (int far : FAR) {
                due("field " + far, INDEX, () -> x.use(far, 0, 0));
                due("rule " + far, INDEX, () -> x.use(0, far, 0));
                due("place " + far, STATE, () -> x.use(0, 0, far));
            }
            due("none of these was an act", 0, () -> x.count(10));
        });
        test(14, "A RULE is used: the CODE then. IllegalStateException: it does not fit.", () -> {
            BeastRules x = Kit.of("rule a to bbbbb;rule b to .;field aa;field " + a(17) + ";field a;field .");
            due("the CODE then", c("abbbbb"), () -> x.use(0, 0, 1));
            due("it is the FIELD's", c("abbbbb"), () -> x.field(0));
            due("not there", STATE, () -> x.use(0, 0, 1));
            due("behind the last PLACE", STATE, () -> x.use(0, 1, 6));
            due("the last PLACE", c("abbbb"), () -> x.use(0, 1, 5));
            due("21 BEASTS", STATE, () -> x.use(1, 0, 0));
            due("of an empty FIELD", STATE, () -> x.use(3, 0, 0));
            x.put(2, c("b"));
            due("none left", 1, () -> x.use(2, 1, 0));
            x.put(1, c(a(16)));
            due("20 BEASTS", c("bbbbb" + a(15)), () -> x.use(1, 0, 0));
            Kit.law(x, "bar if rule < 1");
            due("barred", STATE, () -> x.use(0, 0, 0));
            due("not barred", c("abbb"), () -> x.use(0, 1, 1));
        });
        test(14, ": then LEFT is RIGHT there.", () -> {
            BeastRules x = Kit.of("rule abcd to hgfed;rule h to .;rule g to aaaa;field eabcde");
            due("four become five", c("ehgfede"), () -> x.use(0, 0, 1));
            due("one becomes none", c("egfede"), () -> x.use(0, 1, 1));
            due("one becomes four", c("eaaaafede"), () -> x.use(0, 2, 1));
        });
        test(14, "==== 2. ACTS: a RULE is used at a PLACE of a FIELD (if it fits); STEPS of a FIELD by WAY; a FIELD is told anew (STEPS 0, no MAKERS); a RULE is added at the end, or dropped; a YEAR of a FIELD.", () -> {
            BeastRules x = Kit.of("rule a to b;field aaaa");
            Kit.Call[] acts = {() -> x.use(0, 0, 3), () -> x.run(0, 2), () -> x.put(0, c("aa")), () -> x.add(8, 1), () -> x.drop(1),
                () -> x.years(0, 3)};
            for (int i = 0; i < acts.length; i++) {
                acts[i].go();
                int many = i + 1;
                due("each call is one act", many, () -> x.count(10));
            }
            due("one that does not fit is none", STATE, () -> x.use(0, 0, 19));
            due("one that does not fit is none", 6, () -> x.count(10));
            x.run(0, 1);
            x.run(0, 1);
            due("STEPS, though none could be gone", 8, () -> x.count(10));
        });
    }

    // ---- 15: STEPS

    private static void promise15() {
        test(15, "`int run(int field, int n) throws IndexOutOfBoundsException, IllegalArgumentException`:", () -> {
            BeastRules x = Kit.of("rule a to b;field a");
            due("both: the one told first", INDEX, () -> x.run(1, 0));
            due("both: the one told first", INDEX, () -> x.run(-1, 201));
            for (int far : FAR) {
                due("field " + far, INDEX, () -> x.run(far, 1));
            }
            due("no act", 0, () -> x.count(10));
        });
        test(15, "So many STEPS of a FIELD by WAY (1 to 200): how many could be gone. IllegalArgumentException: they are none.", () -> {
            BeastRules x = Kit.of("rule a to b;rule b to a;field a;field aaaaaa;field c");
            due("0", ARGUMENT, () -> x.run(0, 0));
            due("201", ARGUMENT, () -> x.run(0, 201));
            for (int none : new int[] {-1, -200, 256, 457, Integer.MIN_VALUE, Integer.MAX_VALUE}) {
                due(none + " STEPS", ARGUMENT, () -> x.run(0, none));
            }
            due("1", 1, () -> x.run(0, 1));
            due("200", 200, () -> x.run(0, 200));
            due("gone by that FIELD alone", 201, () -> x.count(8));
            due("none can be gone", 0, () -> x.run(2, 200));
            x.drop(1);
            due("settled at once behind the last", 6, () -> x.run(1, 6));
            due("settled", 0, () -> x.run(1, 6));
            x.put(1, c("aaaaaa"));
            due("fewer could be gone", 6, () -> x.run(1, 7));
        });
    }

    /** The MEADOW behind one STEP. */
    private static void step(String text, String want) {
        BeastRules x = Kit.of(text);
        x.run(0, 1);
        due(text, want, () -> Kit.letters(x.field(0)));
    }

    private static void promise15Ways() {
        test(15, "WAY: 0 left: of all that fit that of the least PLACE, of several the least RULE;", () -> {
            step("rule b to h;rule a to g;first left;field ccabab", "ccgbab");
            step("rule a to f;rule a to g;field caa", "cfa");
            step("rule ab to f;rule a to g;field cab", "cf");
            step("rule a to g;rule ab to f;field cab", "cgb");
            step("rule a to g;field " + "c".repeat(19) + "a", "c".repeat(19) + "g");
        });
        test(15, "1 right: the greatest PLACE, then the least RULE;", () -> {
            step("rule a to h;rule b to g;first right;field ababcc", "abagcc");
            step("rule a to f;rule a to g;first right;field aac", "afc");
            // The PLACE is where LEFT begins, not where it ends.
            step("rule abc to h;rule b to g;first right;field abcc", "agcc");
            step("rule bc to h;rule b to g;first right;field abcc", "ahc");
            step("rule a to g;first right;field a" + "c".repeat(19), "g" + "c".repeat(19));
        });
        test(15, "2 rule: the least RULE, then the least PLACE;", () -> {
            step("rule b to h;rule a to g;first rule;field aabb", "aahb");
            step("rule c to h;rule a to g;first rule;field baa", "bga");
            step("rule b to h;rule a to g;first rule;field " + a(19) + "b", a(19) + "h");
        });
        test(15, "A STEP: by WAY; a MEADOW is SETTLED, if none can be gone.", () -> {
            for (String way : new String[] {"left", "right", "rule", "all"}) {
                BeastRules x = Kit.of("rule ab to c;rule a to bb;field ba;field .;field b;field " + a(20) + ";first " + way);
                due(way + ": one", 1, () -> x.run(0, 9));
                due(way + ": none of an empty MEADOW", 0, () -> x.run(1, 9));
                due(way + ": none", 0, () -> x.run(2, 9));
                due(way + ": none of 20", 0, () -> x.run(3, 9));
            }
            BeastRules barred = Kit.of("rule a to b;field a", "bar");
            due("none, if all is barred", 0, () -> barred.run(0, 9));
        });
    }

    private static void promise15All() {
        test(15, "3 all: from the left on: where a RULE fits the MEADOW as it was (the least RULE) it is used, and one goes on behind its LEFT; the others stay", () -> {
            step("first all;rule a to b;rule b to a;field abba", "baab");
            step("first all;rule aa to b;field aaaaa", "bba");
            step("first all;rule aaa to b;field aaaaa", "baa");
            step("first all;rule a to f;rule aa to g;field aac", "ffc");
            step("first all;rule aa to g;rule a to f;field aaac", "gfc");
            step("first all;rule ab to .;field aabb", "ab");
            step("first all;rule ab to c;rule bc to d;field abcbc", "ccd");
            step("first all;rule a to .;field " + a(20), "");
            step("first all;rule a to b;field " + a(20), "b".repeat(20));
            step("first all;rule abcd to e;field " + "abcd".repeat(5), "eeeee");
            // As it was: a fits among 16 of them, and among 17 it does not, though the h go.
            step("first all;rule h to .;rule a to bbbbb;field hha" + "c".repeat(13), "bbbbb" + "c".repeat(13));
            step("first all;rule h to .;rule a to bbbbb;field hha" + "c".repeat(14), "a" + "c".repeat(14));
        });
        test(15, "(if more than 20 BEASTS came of it all: no STEP can be gone).", () -> {
            step("first all;rule a to bb;field " + a(10), "b".repeat(20));
            step("first all;rule a to bb;field " + a(11), a(11));
            step("first all;rule a to bb;field " + a(10) + "c", a(10) + "c");
            step("first all;rule a to bb;rule c to .;field " + a(10) + "c", "b".repeat(20));
            step("first all;rule a to bbbbb;field " + a(4), "b".repeat(20));
            step("first all;rule a to bbbbb;field " + a(5), a(5));
            step("first all;rule a to bbbbb;field " + a(20), a(20));
            // One that does not fit by itself stays, and the others are used.
            step("first all;rule aaaa to aaaaa;rule c to b;field " + a(18) + "cc", a(18) + "bb");
            BeastRules x = Kit.of("first all;rule a to bb;field " + a(11));
            due("none gone", 0, () -> x.run(0, 1));
            due("none gone", 0, () -> x.steps(0));
            due("no MAKER", NONE, () -> x.maker(0, 0, 0));
        });
    }

    // ---- 16: a FIELD told anew

    private static void promise16() {
        test(16, "`long put(int field, long meadow) throws IndexOutOfBoundsException, IllegalArgumentException`:", () -> {
            BeastRules x = Kit.of("field a");
            due("both: the one told first", INDEX, () -> x.put(1, 0));
            for (int far : FAR) {
                due("field " + far, INDEX, () -> x.put(far, 8));
            }
            for (long none : NO_CODES) {
                due("CODE " + none, ARGUMENT, () -> x.put(0, none));
            }
            due("no act", 0, () -> x.count(10));
            due("as it was", 8, () -> x.field(0));
        });
        test(16, "A FIELD is told anew: the CODE that it had. IllegalArgumentException.", () -> {
            BeastRules x = Kit.of("rule a to b;field aa;field cc");
            x.run(0, 1);
            due("a 20", c("ba"), () -> x.put(0, c("h".repeat(20))));
            due("none", c("h".repeat(20)), () -> x.put(0, 1));
            due("from none", 1, () -> x.put(0, c("aa")));
            due("STEPS 0", 0, () -> x.steps(0));
            due("no MAKERS", NONE, () -> x.maker(0, 0, 0));
            due("no MAKERS", NONE, () -> x.maker(0, 0, 1));
            x.run(0, 2);
            due("STEPS from 1 on", 2, () -> x.maker(0, 1, 1));
            due("the other one stays", c("cc"), () -> x.field(1));
        });
        test(16, "A MEADOW: 0 to 20 BEASTS in a row.", () -> {
            BeastRules x = Kit.of("field a");
            due("20", 8, () -> x.put(0, (1L << 61) - 1));
            due("0", (1L << 61) - 1, () -> x.put(0, 1));
            due("21", ARGUMENT, () -> x.put(0, 1L << 63));
            due("0 still", 1, () -> x.field(0));
        });
    }

    // ---- 17, 18: RULES added and dropped

    private static void promise17() {
        test(17, "`int add(long left, long right) throws IllegalArgumentException, UnsupportedOperationException`:", () -> {
            BeastRules x = Kit.of("rule a to b" + ";rule a to b".repeat(11));
            due("both: the one told first", ARGUMENT, () -> x.add(1, 8));
            due("both: the one told first", ARGUMENT, () -> x.add(8, 0));
            due("12 alone", UNSUPPORTED, () -> x.add(8, 8));
        });
        test(17, "A RULE more: its number.", () -> {
            BeastRules x = new BeastRules();
            for (int i = 0; i < 12; i++) {
                int number = i;
                due("RULE " + number, number, () -> x.add(8, 1));
            }
            x.drop(3);
            due("at the end", 11, () -> x.add(c("h"), 1));
            due("at the end", c("h"), () -> x.rule(11, false));
        });
        test(17, "IllegalArgumentException: a CODE is none, or has too many BEASTS, or LEFT none;", () -> {
            BeastRules x = new BeastRules();
            for (long none : NO_CODES) {
                due("LEFT " + none, ARGUMENT, () -> x.add(none, 8));
                due("RIGHT " + none, ARGUMENT, () -> x.add(8, none));
            }
            due("LEFT of 5", ARGUMENT, () -> x.add(c(a(5)), 8));
            due("RIGHT of 6", ARGUMENT, () -> x.add(8, c(a(6))));
            due("LEFT of 20", ARGUMENT, () -> x.add(c(a(20)), 8));
            due("RIGHT of 20", ARGUMENT, () -> x.add(8, c("h".repeat(20))));
            due("LEFT none", ARGUMENT, () -> x.add(1, 8));
            due("LEFT none, RIGHT none", ARGUMENT, () -> x.add(1, 1));
            due("nothing was added", 0, () -> x.count(0));
            due("no act", 0, () -> x.count(10));
            due("LEFT of 4, RIGHT of 5", 0, () -> x.add(c("habh"), c("habch")));
            due("LEFT of 1, RIGHT none", 1, () -> x.add(c("h"), 1));
            due("LEFT", c("habh"), () -> x.rule(0, false));
            due("RIGHT", c("habch"), () -> x.rule(0, true));
            due("RIGHT none", 1, () -> x.rule(1, true));
        });
        test(17, "UnsupportedOperationException: there are 12.", () -> {
            BeastRules x = Kit.of("rule a to b" + ";rule a to b".repeat(10));
            due("the 12th", 11, () -> x.add(8, 8));
            refused(x, "the 13th", UNSUPPORTED, () -> x.add(8, 8));
            x.drop(0);
            due("once more the 12th", 11, () -> x.add(8, 8));
        });
    }

    private static void promise18() {
        test(18, "`int drop(int rule) throws IndexOutOfBoundsException`: A RULE is dropped: how many are left.", () -> {
            BeastRules x = Kit.of("rule a to b;rule bb to cc;rule ccc to ddd;rule dddd to .");
            due("the first", 3, () -> x.drop(0));
            due("those behind have a number less", c("bb"), () -> x.rule(0, false));
            due("the last", 2, () -> x.drop(2));
            due("the one ahead of it stays", c("ccc"), () -> x.rule(1, false));
            due("behind the last", INDEX, () -> x.drop(2));
            for (int far : FAR) {
                due("rule " + far, INDEX, () -> x.drop(far));
            }
            due("one left", 1, () -> x.drop(0));
            due("it fits as it did", true, () -> x.fits(c("accc"), 0, 1));
            due("none left", 0, () -> x.drop(0));
            due("none there", INDEX, () -> x.drop(0));
            due("four acts", 4, () -> x.count(10));
            BeastRules sizes = Kit.of("rule h to h;rule a to bbbbb;rule bb to .;field ca");
            sizes.drop(0);
            due("its LEFT and RIGHT are as long as they were", c("cbbbbb"), () -> sizes.use(0, 0, 1));
            due("its LEFT and RIGHT are as long as they were", c("cbbb"), () -> sizes.use(0, 1, 1));
            due("and it fits as it did", false, () -> sizes.fits(c("a".repeat(17)), 0, 0));
            due("and it fits as it did", true, () -> sizes.fits(c("a".repeat(16)), 0, 0));
            BeastRules twelve = Kit.of("rule a to b" + ";rule a to b".repeat(10) + ";rule h to g");
            due("the 12th", 11, () -> twelve.drop(11));
            due("of 11 the first", 10, () -> twelve.drop(0));
        });
    }

    // ---- 19: YEARS

    private static void promise19() {
        test(19, "`int years(int field, int n) throws IndexOutOfBoundsException, IllegalArgumentException`:", () -> {
            BeastRules x = Kit.of("rule a to b;field a");
            due("both: the one told first", INDEX, () -> x.years(1, 0));
            due("both: the one told first", INDEX, () -> x.years(-1, 201));
            for (int far : FAR) {
                due("field " + far, INDEX, () -> x.years(far, 1));
            }
            due("no YEAR", 0, () -> x.count(7));
            due("no DRAW", 1, () -> x.seed(1));
        });
        test(19, "So many YEARS of a FIELD (1 to 200): how often a RULE was used. IllegalArgumentException: they are none.", () -> {
            BeastRules x = Kit.of("rule a to b;rule b to a;field a;field aaa;field c");
            due("0", ARGUMENT, () -> x.years(0, 0));
            due("201", ARGUMENT, () -> x.years(0, 201));
            for (int none : new int[] {-1, -200, 256, 457, Integer.MIN_VALUE, Integer.MAX_VALUE}) {
                due(none + " YEARS", ARGUMENT, () -> x.years(0, none));
            }
            due("no YEAR", 0, () -> x.count(7));
            due("1", 1, () -> x.years(0, 1));
            due("200", 200, () -> x.years(0, 200));
            due("each is a STEP", 201, () -> x.steps(0));
            due("YEARS", 201, () -> x.count(7));
            due("nothing fits", 0, () -> x.years(2, 200));
            due("YEARS for all that", 401, () -> x.count(7));
            x.drop(1);
            due("three times", 3, () -> x.years(1, 200));
        });
        test(19, "YEAR is 1 more.", () -> {
            BeastRules x = Kit.of("rule a to a;field a;fog 50", "bar if year > 6 and year < 9");
            for (int i = 1; i <= 12; i++) {
                int year = i;
                x.years(0, 1);
                due("YEAR", year, () -> x.count(7));
                // THE LAW bars in YEARS 7 and 8.
                due("barred in " + year, year == 7 || year == 8, () -> !x.fits(8, 0, 0));
            }
            BeastRules both = Kit.of("field a;field b");
            both.years(0, 2);
            both.years(1, 3);
            due("one YEAR for all FIELDS", 5, () -> both.count(7));
        });
    }

    /** The SEED behind so many DRAWS. */
    private static int behind(int seed, int draws) {
        int here = seed;
        for (int i = 0; i < draws; i++) {
            here = here * 1103515245 + 12345;
        }
        return here;
    }

    /** What the next DRAW of a SEED is. */
    private static int drawOf(int seed) {
        return (int) ((behind(seed, 1) & 0xffffffffL) >> 16) & 32767;
    }

    private static void promise19Draws() {
        test(19, "A YEAR of a FIELD: DRAW modulo 100 below FOG: nothing happens there (but the YEAR).", () -> {
            for (int seed : new int[] {1, 0, -1, 7, Integer.MIN_VALUE, Integer.MAX_VALUE}) {
                int hidden = drawOf(seed) % 100;
                for (int fog : new int[] {0, 1, hidden, hidden + 1, 99, 100}) {
                    BeastRules x = Kit.of("rule a to b;field a;fog " + fog);
                    x.seed(seed);
                    String what = "SEED " + seed + ", FOG " + fog;
                    boolean isClear = hidden >= fog;
                    due(what, isClear ? 1 : 0, () -> x.years(0, 1));
                    due(what + ": the FIELD", isClear ? 9 : 8, () -> x.field(0));
                    due(what + ": STEPS", isClear ? 1 : 0, () -> x.steps(0));
                    due(what + ": the YEAR", 1, () -> x.count(7));
                    due(what + ": DRAWS", behind(seed, isClear ? 2 : 1), () -> x.seed(1));
                }
            }
            BeastRules always = Kit.of("rule a to b;rule b to a;field a;fog 100");
            due("FOG 100 hides all", 0, () -> always.years(0, 200));
            due("a DRAW a YEAR", behind(1, 200), () -> always.seed(1));
        });
        test(19, "Else of all RULES and PLACES that fit (by PLACE, then RULE) the one of DRAW modulo how many there are is used", () -> {
            // Six fit: RULES 0 and 2 at PLACES 1, 2 and 3, by PLACE, then RULE.
            for (int seed = -6; seed < 40; seed++) {
                int which = drawOf(behind(seed, 1)) % 6;
                BeastRules x = Kit.of("rule a to b;rule d to e;rule a to c;field haaah");
                x.seed(seed);
                StringBuilder want = new StringBuilder("haaah");
                want.setCharAt(1 + which / 2, which % 2 == 0 ? 'b' : 'c');
                due("SEED " + seed, 1, () -> x.years(0, 1));
                due("SEED " + seed, want.toString(), () -> Kit.letters(x.field(0)));
                due("SEED " + seed + ": its MAKER", which % 2 == 0 ? 0 : 2, () -> x.maker(0, 1 + which / 2, 0));
            }
            // As many as ever can: 12 RULES at 20 PLACES.
            for (int seed = 0; seed < 30; seed++) {
                int which = drawOf(behind(seed, 1)) % 240;
                BeastRules x = Kit.of("rule a to h" + ";rule a to h".repeat(11));
                Kit.valley(x, "field " + a(20));
                x.seed(seed);
                x.years(0, 1);
                due("240, SEED " + seed, which % 12, () -> x.maker(0, which / 12, 0));
            }
        });
    }

    private static void promise19Seed() {
        test(19, "(none: nothing; nothing is drawn).", () -> {
            BeastRules x = Kit.of("rule a to b;field b;field .;field a", "bar if long < 2 and rule < 1");
            for (int field = 0; field < 3; field++) {
                int f = field;
                x.seed(99);
                due("none fits", 0, () -> x.years(f, 1));
                due("one DRAW", behind(99, 1), () -> x.seed(1));
                due("no STEP", 0, () -> x.steps(f));
            }
            due("three YEARS", 3, () -> x.count(7));
        });
        test(19, "DRAW: SEED is 1103515245 times SEED and 12345, as an int that goes round; bits 16 to 30", () -> {
            BeastRules x = Kit.of("field b");
            for (int seed : new int[] {0, 1, -1, 2, Integer.MAX_VALUE, Integer.MIN_VALUE, 1103515245, -12345}) {
                x.seed(seed);
                x.years(0, 1);
                due("behind " + seed, behind(seed, 1), () -> x.seed(seed));
                x.seed(seed);
                x.years(0, 200);
                due("behind " + seed + ", 200 times", behind(seed, 200), () -> x.seed(seed));
            }
            // 1 becomes 1103527590, of which bits 16 to 30 are 16838; -1 becomes -1103502900, of which they are 15929.
            for (int[] known : new int[][] {{1, 38}, {-1, 29}}) {
                for (int fog = known[1]; fog <= known[1] + 1; fog++) {
                    BeastRules y = Kit.of("rule a to b;field a;fog " + fog);
                    y.seed(known[0]);
                    due("SEED " + known[0] + " with FOG " + fog, known[1] >= fog ? 1 : 0, () -> y.years(0, 1));
                }
            }
        });
    }

    // ---- 41: SEED

    private static void promise41() {
        test(41, "`int seed(int n)`: SEED: what it was.", () -> {
            BeastRules x = new BeastRules();
            due("at first", 1, () -> x.seed(Integer.MIN_VALUE));
            due("the least", Integer.MIN_VALUE, () -> x.seed(Integer.MAX_VALUE));
            due("the greatest", Integer.MAX_VALUE, () -> x.seed(0));
            due("0", 0, () -> x.seed(-1));
            due("-1", -1, () -> x.seed(-1));
            due("no act", 0, () -> x.count(10));
        });
    }

    // ---- 42: acts undone

    private static void promise42() {
        test(42, "`boolean undo()`: UNDONE: whether there was one.", () -> {
            BeastRules x = Kit.of("field a");
            due("none", false, () -> x.undo());
            x.put(0, 1);
            due("one", true, () -> x.undo());
            due("none more", false, () -> x.undo());
            due("nothing undone twice", 8, () -> x.field(0));
            due("nothing told", false, () -> new BeastRules().undo());
        });
        test(42, "UNDONE: the latest ACT not undone yet (16 are remembered):", () -> {
            BeastRules x = Kit.of("field .");
            for (int i = 1; i <= 17; i++) {
                x.put(0, c(a(i)));
                int many = Math.min(i, 16);
                due("remembered behind " + i, many, () -> x.count(10));
            }
            for (int i = 16; i >= 1; i--) {
                int many = i;
                due("undone", true, () -> x.undo());
                due("as ahead of it", c(a(many)), () -> x.field(0));
                due("left", many - 1, () -> x.count(10));
            }
            due("no 17th", false, () -> x.undo());
            due("it stays", c("a"), () -> x.field(0));
        });
        test(42, "UNDONE: the latest ACT not undone yet (16 are remembered):", () -> {
            // Acts and undone ones by turns go round what is remembered several times.
            BeastRules x = Kit.of("field .");
            java.util.ArrayDeque<Long> ahead = new java.util.ArrayDeque<>();
            for (int i = 0; i < 90; i++) {
                if (i % 5 < 3) {
                    ahead.addLast(x.field(0));
                    if (ahead.size() > 16) {
                        ahead.removeFirst();
                    }
                    x.put(0, 64 + i % 64);
                } else {
                    due("undone", true, () -> x.undo());
                    due("as ahead of it", ahead.removeLast(), () -> x.field(0));
                }
                due("remembered", ahead.size(), () -> x.count(10));
            }
            while (!ahead.isEmpty()) {
                due("undone", true, () -> x.undo());
                due("as ahead of it", ahead.removeLast(), () -> x.field(0));
            }
            due("none more", false, () -> x.undo());
        });
    }

    private static void promise42Else() {
        test(42, "all is as ahead of it (but for the TAPE, fault(), THE IMAGE).", () -> {
            BeastRules x = Kit.of("rule a to b;rule b to ccc;field aa;field b", "bar if year > 8");
            x.run(0, 1);
            String was = Kit.state(x);
            x.put(0, c("h"));
            Kit.feed(x, "fog");
            due("a wrong text", ARGUMENT, () -> x.valley());
            Kit.feed(x, "fog 1");
            x.image();
            due("undone", true, () -> x.undo());
            due("as ahead of it", was, () -> Kit.state(x));
            due("but for fault()", 3, () -> x.fault());
            due("but for the TAPE", true, () -> !x.end(6) && x.end(5));
            due("but for THE IMAGE", true, () -> x.back());
            due("but for THE IMAGE", c("h"), () -> x.field(0));
        });
        test(42, "A text, going back: none are remembered.", () -> {
            BeastRules x = Kit.of("rule a to b;field a");
            x.put(0, 9);
            Kit.valley(x, "");
            due("an empty text of THE VALLEY", false, () -> x.undo());
            due("it stays", 9, () -> x.field(0));
            x.put(0, 10);
            Kit.law(x, "");
            due("an empty law", false, () -> x.undo());
            due("it stays", 10, () -> x.field(0));
            x.image();
            x.put(0, 11);
            x.back();
            due("going back", 0, () -> x.count(10));
            due("going back", false, () -> x.undo());
            due("as THE IMAGE is", 10, () -> x.field(0));
            x.put(0, 12);
            due("a wrong text", ARGUMENT, () -> Kit.valley(x, "x"));
            due("a wrong law", ARGUMENT, () -> Kit.law(x, "x"));
            due("remembered for all that", 1, () -> x.count(10));
            due("undone", true, () -> x.undo());
            due("as ahead of it", 10, () -> x.field(0));
            BeastRules none = Kit.of("field a");
            none.put(0, 9);
            due("no IMAGE to go back to", false, () -> none.back());
            due("remembered for all that", true, () -> none.undo());
        });
    }

    private static void promise42Acts() {
        test(42, "the latest ACT not undone yet", () -> {
            undone("use", x -> x.use(0, 0, 0));
            undone("run", x -> x.run(0, 2));
            undone("run, though nothing could be gone", x -> x.run(1, 200));
            undone("put", x -> x.put(0, 1));
            undone("put to what it was", x -> x.put(1, c("h")));
            undone("add", x -> x.add(c("abcd"), c("abcde")));
            undone("drop", x -> x.drop(0));
            undone("complete", x -> x.complete());
            undone("years", x -> x.years(0, 7));
        });
    }

    private interface Act {
        Object go(BeastRules x);
    }

    /** An act, and nothing else, is undone. */
    private static void undone(String what, Act act) {
        BeastRules x = Kit.of("rule ab to c;rule bd to e;field abab;field h;weight a 3;fog 20");
        x.use(0, 0, 2);
        String was = Kit.state(x);
        act.go(x);
        due(what + " is an act", 2, () -> x.count(10));
        x.seed(5);
        due(what + " is undone", true, () -> x.undo());
        due("all is as ahead of " + what, was, () -> Kit.state(x));
        due("the one ahead of it", true, () -> x.undo());
        due("is undone, too", c("abab"), () -> x.field(0));
        due("none more", false, () -> x.undo());
    }

    // ---- 43, 44: THE IMAGE

    private static void promise43() {
        test(43, "`void image()`: THE IMAGE is kept.", () -> {
            BeastRules x = Kit.of("field a");
            x.image();
            due("no act", 0, () -> x.count(10));
            x.put(0, 9);
            due("one goes back to it", true, () -> x.back());
            due("as it was kept", 8, () -> x.field(0));
            due("it is kept still", true, () -> x.back());
            BeastRules empty = new BeastRules();
            empty.image();
            Kit.valley(empty, "rule a to b;field a;seen a to b;fog 5;weight a 5;first all");
            Kit.law(empty, "bar");
            due("of an object without anything told", true, () -> empty.back());
            due("nothing told", Kit.state(new BeastRules()), () -> Kit.state(empty));
        });
        test(43, "THE IMAGE (one) of all may be kept, and gone back to", () -> {
            BeastRules x = Kit.of("field a");
            x.image();
            x.put(0, 9);
            x.image();
            x.put(0, 10);
            due("back", true, () -> x.back());
            due("the later one", 9, () -> x.field(0));
            due("back once more", true, () -> x.back());
            due("there is no other one", 9, () -> x.field(0));
        });
    }

    private static void promise44() {
        test(44, "`boolean back()`: One goes back to THE IMAGE: true; false, and nothing happens, if none was kept.", () -> {
            BeastRules x = Kit.of("rule a to b;field a", "bar if end");
            x.put(0, c("aaa"));
            String was = Kit.state(x);
            due("none kept", false, () -> x.back());
            due("nothing happened", was, () -> Kit.state(x));
            due("acts are remembered", 1, () -> x.count(10));
            x.image();
            x.drop(0);
            due("kept", true, () -> x.back());
            due("RULES", 1, () -> x.count(0));
        });
        test(44, "(but for the TAPE, fault() and THE IMAGE itself).", () -> {
            BeastRules x = Kit.of("rule a to b;rule aa to c;field aaa;field b;seen a to b;weight b 9;first rule;fog 3", "bar if place > 1;bar if year > 5");
            x.run(0, 1);
            x.seed(-77);
            String was = Kit.state(x);
            x.image();
            x.years(0, 9);
            Kit.valley(x, "drop 0;rule d to e;rule e to f;field c;seen b to c;weight b 1;first all;fog 90");
            Kit.law(x, "bar");
            x.put(0, c("h".repeat(20)));
            due("a wrong text", ARGUMENT, () -> Kit.valley(x, "fog 1;x"));
            Kit.feed(x, "fog 12");
            due("kept", true, () -> x.back());
            due("all is as it was, but for acts", was.replaceFirst(" 1; rule", " 0; rule"), () -> Kit.state(x));
            due("but for fault()", 6, () -> x.fault());
            due("but for the TAPE", true, () -> !x.end(7) && x.end(6));
            due("but for THE IMAGE", true, () -> x.back());
        });
        test(44, "(but for the TAPE, fault() and THE IMAGE itself).", () -> {
            BeastRules x = Kit.of("rule a to b");
            x.image();
            Kit.law(x, "bar");
            due("barred", false, () -> x.fits(8, 0, 0));
            x.back();
            due("no LAW is gone back to", NONE, () -> x.count(4));
            due("not barred", true, () -> x.fits(8, 0, 0));
            Kit.law(x, "bar;bar if end");
            x.image();
            Kit.law(x, "");
            x.back();
            due("two LINES are gone back to", 2, () -> x.count(4));
            due("barred", false, () -> x.fits(8, 0, 0));
            for (int i = x.count(3); i < 10; i++) {
                x.valley();
            }
            x.back();
            due("texts are as many as there were", 2, () -> x.valley());
        });
    }

    // ---- 45: count

    private static void promise45() {
        test(45, "`int count(int what)`: 0 RULES, 1 FIELDS, 2 SEEN, 3 texts of THE VALLEY, 4 LINES of THE LAW (NONE without one), 5 WAY, 6 FOG, 7 YEAR, 8 STEPS gone by all FIELDS, 9 BEASTS of all FIELDS, 10 acts that can be UNDONE.", () -> {
            BeastRules x = Kit.of("rule a to b" + ";rule a to b".repeat(11));
            Kit.valley(x, "field " + "h".repeat(20) + ";field " + a(20) + ";field .;field .;field a;field a;first all;fog 100");
            Kit.valley(x, "seen . to ." + ";seen . to .".repeat(9));
            due("LINES without a law", NONE, () -> x.count(4));
            Kit.law(x, "bar if 1 < 0" + ";bar if 1 < 0".repeat(11));
            for (int i = 0; i < 7; i++) {
                x.valley();
            }
            x.run(1, 200);
            x.run(4, 200);
            x.years(0, 200);
            int[] all = {12, 6, 10, 10, 12, 3, 100, 200, 2, 42, 3};
            for (int i = 0; i < all.length; i++) {
                int what = i;
                due("count(" + what + ")", all[what], () -> x.count(what));
            }
            x.put(1, 1);
            due("STEPS that were gone by what is told anew", 1, () -> x.count(8));
            due("BEASTS", 22, () -> x.count(9));
            due("acts", 4, () -> x.count(10));
            Kit.law(x, "");
            due("LINES of an empty law", 0, () -> x.count(4));
            due("acts behind a text", 0, () -> x.count(10));
        });
        test(45, "NONE for another what.", () -> {
            BeastRules x = Kit.of("rule a to b;field a");
            due("11", NONE, () -> x.count(11));
            due("-1", NONE, () -> x.count(-1));
            for (int far : FAR) {
                due("what " + far, NONE, () -> x.count(far));
            }
        });
    }

    // ---- the paragraph on exceptions

    private static void exceptions() {
        test(14, "Of several exceptions the one told first is thrown;", () -> {
            BeastRules x = Kit.of("rule a to b;field a");
            for (int i = 0; i < 9; i++) {
                x.valley();
            }
            due("valley", ARGUMENT, () -> Kit.valley(x, "x"));
            due("maker", INDEX, () -> x.maker(0, 1, 2));
            due("fits", INDEX, () -> x.fits(0, 1, 0));
            due("use", INDEX, () -> x.use(0, 1, 1));
            due("run", INDEX, () -> x.run(1, 0));
            due("put", INDEX, () -> x.put(1, 0));
            due("years", INDEX, () -> x.years(1, 0));
            due("becomes", ARGUMENT, () -> x.becomes(8, 41, 4));
            due("becomes", ARGUMENT, () -> x.becomes(0, 40, 4));
            due("never", ARGUMENT, () -> x.never(8, 0, 8));
            due("falls", ARGUMENT, () -> x.falls(0, 8));
            for (int i = 1; i < 12; i++) {
                x.add(8, 8);
            }
            due("add", ARGUMENT, () -> x.add(0, 8));
        });
        test(14, "IndexOutOfBoundsException: there is no such RULE, FIELD, SEEN, BEAST.", () -> {
            BeastRules x = Kit.of("rule a to b;field a;seen a to b");
            Kit.Call[] calls = {() -> x.rule(1, true), () -> x.field(1), () -> x.seen(1, true), () -> x.steps(1), () -> x.maker(1, 0, 0),
                () -> x.fits(8, 1, 0), () -> x.use(1, 0, 0), () -> x.use(0, 1, 0), () -> x.run(1, 1), () -> x.put(1, 8), () -> x.drop(1),
                () -> x.years(1, 1), () -> x.never(8, 8, 8), () -> x.falls(1, 8), () -> x.loss(1), () -> x.explained(1)};
            for (int i = 0; i < calls.length; i++) {
                due("call " + i, INDEX, calls[i]);
            }
            due("where it is not told there is none", 0, () -> x.dropped(64));
            due("where it is not told there is none", NONE, () -> x.beast(8, 1));
        });
        test(14, "IllegalArgumentException: a number is none, or a CODE is none (as soon as it is told).", () -> {
            BeastRules x = Kit.of("rule a to a;rule bcde to a;rule f to gh;field a");
            // Though the first MEADOW alone decides what is answered: it never settles, or is the other one, or is too many.
            due("alike", ARGUMENT, () -> x.alike(8, 0));
            due("fewest", ARGUMENT, () -> x.fewest(8, 0));
            due("meets", ARGUMENT, () -> x.meets(8, 2, 0, true));
            due("never, of seven BEASTS", ARGUMENT, () -> x.never(8, 2, NONE));
            due("never, of seven BEASTS", ARGUMENT, () -> x.never(2, 8, NONE));
            due("fits, where there is no such PLACE", ARGUMENT, () -> x.fits(2, 0, -1));
            due("beast, where there is none", ARGUMENT, () -> x.beast(2, -1));
            due("settles, in no STEPS", ARGUMENT, () -> x.settles(2, 0, false));
            due("settles, of too many STEPS", ARGUMENT, () -> x.settles(8, 501, false));
            due("becomes, in no STEPS", ARGUMENT, () -> x.becomes(2, 0, 0));
            due("add, where there are 12", ARGUMENT, () -> Kit.of("rule a to b" + ";rule a to b".repeat(11)).add(8, 2));
        });
        test(14, "IllegalStateException: it cannot be.", () -> {
            BeastRules x = Kit.of("rule a to b;field b");
            refused(x, "it does not fit", STATE, () -> x.use(0, 0, 0));
        });
    }

    private static void refusedCalls() {
        test(14, "a call that throws changes nothing but the TAPE, where it is used up, and fault(), where a text is read (also by one that is refused).", () -> {
            BeastRules x = Kit.of("rule a to b;field aa;seen a to b", "bar if place > 0");
            x.run(0, 1);
            x.image();
            x.run(0, 1);
            Kit.feed(x, "fog 99 ");
            String was = Kit.state(x);
            Kit.Call[] calls = {() -> x.rule(1, true), () -> x.field(1), () -> x.seen(1, true), () -> x.steps(1), () -> x.maker(0, 0, 2),
                () -> x.fits(0, 0, 0), () -> x.use(0, 0, 1), () -> x.use(0, 1, 0), () -> x.run(0, 0), () -> x.run(0, 201), () -> x.put(0, 0),
                () -> x.add(1, 8), () -> x.add(8, 2), () -> x.drop(1), () -> x.years(0, 0), () -> x.years(0, 201), () -> x.settles(8, 501, true),
                () -> x.again(0, true), () -> x.alike(8, 0), () -> x.becomes(8, 41, 0), () -> x.becomes(8, 1, 4), () -> x.fewest(8, 0),
                () -> x.meets(8, 8, 13, true), () -> x.overlaps(3), () -> x.never(8, 8, 8), () -> x.falls(6, 0), () -> x.light(0),
                () -> x.loss(1), () -> x.reckons(4, 0), () -> x.reckons(0, 5), () -> x.explained(1), () -> x.guessed(3), () -> x.drovers(8, 9),
                () -> x.best(8, 0), () -> x.sorts(4), () -> x.beast(0, 0)};
            for (int i = 0; i < calls.length; i++) {
                Kit.Call call = calls[i];
                due("call " + i, true, () -> Kit.answer(call).startsWith("throws."));
            }
            due("nothing changed", was, () -> Kit.state(x));
            due("the TAPE is not used up", true, () -> !x.end(8) && x.end(7));
            due("no text was read", NONE, () -> x.fault());
            due("a text, wrong", ARGUMENT, () -> Kit.law(x, "bar"));
            due("it was read", 0, () -> x.fault());
            due("it is used up", false, () -> x.end(1));
            due("nothing changed", was, () -> Kit.state(x));
            due("the act is remembered", true, () -> x.undo());
            due("THE IMAGE is kept", true, () -> x.back());
        });
        test(4, "and fault(), where a text is read (also by one that is refused).", () -> {
            BeastRules x = new BeastRules();
            for (int i = 0; i < 10; i++) {
                x.valley();
            }
            due("a law, wrong", ARGUMENT, () -> Kit.law(x, "  x"));
            due("its byte", 2, () -> x.fault());
            due("refused", UNSUPPORTED, () -> Kit.valley(x, "fog 1"));
            due("it is right", NONE, () -> x.fault());
            due("wrong, and too many", ARGUMENT, () -> Kit.valley(x, "fog 1000"));
            due("its byte", 4, () -> x.fault());
            due("FOG", 0, () -> x.count(6));
        });
    }
}

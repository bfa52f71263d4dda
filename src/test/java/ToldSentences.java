/** The sentences of promises 1 to 13, and of the texts. */
final class ToldSentences extends Sentences {
    static void tests() {
        promise1();
        promise1AtFirst();
        promise2();
        promise2Full();
        promise3();
        promise4();
        promise4Lines();
        promise4Bounds();
        promise4Beasts();
        promise5();
        promise5Parts();
        promise5Numbers();
        promise5Deep();
        promise6();
        promise6Things();
        promise7();
        promise8();
        promise9();
        promise10();
        promise11();
        promise12();
        promise12Made();
        promise13();
        promise13Bounds();
    }

    /** A text with ^ ahead of its first wrong byte, or with none, if it is right. */
    private static void marked(boolean valley, String... texts) {
        for (String marked : texts) {
            BeastRules x = new BeastRules();
            int at = marked.indexOf('^');
            Kit.feed(x, marked.replace("^", ""));
            due(marked, at >= 0 ? ARGUMENT : "right", () -> {
                int answer = valley ? x.valley() : x.law();
                return answer < 0 ? "below 0" : "right";
            });
            due(marked + ": fault()", at, () -> x.fault());
        }
    }

    // ---- 1: a new object

    private static void promise1() {
        test(1, "public static final int NONE = -1;", () -> due("NONE", -1, () -> BeastRules.NONE));
        test(1, "`BeastRules()`: Nothing told.", () -> {
            BeastRules x = new BeastRules();
            due("TAPE", false, () -> x.end(1));
            for (int i = 0; i < 4; i++) {
                int what = i;
                due("count(" + what + ")", 0, () -> x.count(what));
            }
            due("THE LAW", NONE, () -> x.count(4));
            due("RULE", INDEX, () -> x.rule(0, false));
            due("FIELD", INDEX, () -> x.field(0));
            due("SEEN", INDEX, () -> x.seen(0, false));
            due("acts", false, () -> x.undo());
            due("THE IMAGE", false, () -> x.back());
            due("a text read", NONE, () -> x.fault());
        });
        test(1, "An object is used for at most 512 calls after it has been made", () -> {
            BeastRules x = new BeastRules();
            // 3 calls tell the text, 508 go on, and the 512th is looked at.
            x.feed(0x72756c65, 0x20612074, 0x6f20623b, 0x72756c65, 0x20622074);
            x.feed(0x6f20613b, 0x6669656c, 0x64206120, 0x20202020, 0x20202020);
            x.valley();
            for (int call = 4; call <= 511; call++) {
                int number = call;
                due("call " + number, 1, () -> x.run(0, 1));
            }
            due("the 512th call", 508, () -> x.steps(0));
        });
        test(1, "An object is used for at most 512 calls after it has been made", () -> {
            BeastRules x = new BeastRules();
            for (int call = 1; call <= 511; call++) {
                int number = call;
                due("refused call " + number, INDEX, () -> x.drop(0));
            }
            due("the 512th call", 0, () -> x.add(8, 1));
        });
    }

    private static void promise1AtFirst() {
        test(1, "WAY 0 at first.", () -> {
            due("WAY", 0, () -> new BeastRules().count(5));
            BeastRules x = Kit.of("rule b to c;rule a to d;field abab");
            x.run(0, 1);
            due("gone by left", c("dbab"), () -> x.field(0));
        });
        test(1, "(0 at first). YEAR: 0 at first.", () -> {
            due("FOG", 0, () -> new BeastRules().count(6));
            due("YEAR", 0, () -> new BeastRules().count(7));
            // With FOG 0 no YEAR is in fog.
            BeastRules x = Kit.of("rule a to a;field a");
            due("no fog", 200, () -> x.years(0, 200));
        });
        test(1, "WEIGHT of each BEAST: 0 to 99 (1 at first).", () -> {
            BeastRules x = new BeastRules();
            for (int i = 0; i < 8; i++) {
                int beast = i;
                due("weight " + beast, 1, () -> x.light(8 + beast));
            }
        });
        test(1, "(SEED 1 at first).", () -> due("SEED", 1, () -> new BeastRules().seed(5)));
    }

    // ---- 2, 3: the TAPE

    private static void promise2() {
        test(2, "`int feed(int a, int b, int c, int d, int e)`: Twenty bytes come behind the TAPE, of each number the highest first:", () -> {
            // fog 1;rule ab to hgf | cd;weight a 12;fog 3
            BeastRules x = new BeastRules();
            x.feed(0x666f6720, 0x313b7275, 0x6c652061, 0x6220746f, 0x20686766);
            x.feed(0x63643b77, 0x65696768, 0x74206120, 0x31323b66, 0x6f672033);
            due("read", 1, () -> x.valley());
            due("the last of the first, and the first of the second", c("hgfcd"), () -> x.rule(0, true));
            due("LEFT", c("ab"), () -> x.rule(0, false));
            due("weight", 12, () -> x.light(8));
            due("the last", 3, () -> x.count(6));
        });
        test(2, "Twenty bytes come behind the TAPE, of each number the highest first:", () -> {
            // The sign of a number is one of its bits: bytes above 127 are no letters, blanks or digits.
            for (int at = 0; at < 20; at++) {
                for (int high : new int[] {0x80, 0xa0, 0xe1, 0xff}) {
                    StringBuilder signs = new StringBuilder(" ".repeat(20));
                    signs.setCharAt(at, (char) high);
                    BeastRules x = new BeastRules();
                    Kit.feed(x, signs.toString());
                    due("byte " + high + " at " + at, ARGUMENT, () -> x.valley());
                    int there = at;
                    due("byte " + high + " at " + there, there, () -> x.fault());
                }
            }
        });
    }

    private static void promise2Full() {
        test(2, "how many it has;", () -> {
            BeastRules x = new BeastRules();
            due("from none", 20, () -> x.feed(-1, -1, -1, -1, -1));
            due("20 more", 40, () -> x.feed(0, 0, 0, 0, 0));
            x.end(1);
            due("behind 1", 21, () -> x.feed(Integer.MIN_VALUE, Integer.MAX_VALUE, 0, 0, 0));
            x.end(0);
            due("behind none", 20, () -> x.feed(0, 0, 0, 0, 0));
        });
        test(2, "NONE, and none come, if it would have more than 400.", () -> {
            BeastRules x = new BeastRules();
            for (int i = 1; i < 20; i++) {
                x.feed(0x20202020, 0x20202020, 0x20202020, 0x20202020, 0x20202020);
            }
            due("400 are not more", 400, () -> x.feed(0x20202020, 0x20202020, 0x20202020, 0x20202020, 0x66672039));
            due("420", NONE, () -> x.feed(0, 0, 0, 0, 0));
            due("none came", false, () -> x.end(401));
            due("none came", true, () -> x.end(400));
            due("420 again", NONE, () -> x.feed(0, 0, 0, 0, 0));
            due("read as it was", ARGUMENT, () -> x.valley());
            due("read as it was", 396, () -> x.fault());
        });
        test(2, "NONE, and none come, if it would have more than 400.", () -> {
            BeastRules x = new BeastRules();
            Kit.feed(x, "fog 7" + " ".repeat(376));
            due("401", NONE, () -> x.feed(0x3b3b3b3b, 0, 0, 0, 0));
            due("none came", false, () -> x.end(382));
            due("none came", true, () -> x.end(381));
            due("read as it was", 1, () -> x.valley());
            Kit.feed(x, " ".repeat(380));
            due("400", 400, () -> x.feed(0x20202020, 0x20202020, 0x20202020, 0x20202020, 0x20202020));
            due("all is read", 2, () -> x.valley());
        });
    }

    private static void promise3() {
        test(3, "`boolean end(int n)`: The TAPE has its first n bytes alone: true;", () -> {
            BeastRules x = new BeastRules();
            Kit.feed(x, "fog 100;first all ;x");
            due("all of them", true, () -> x.end(20));
            due("one fewer", true, () -> x.end(17));
            due("the others are gone", false, () -> x.end(18));
            due("those stay", true, () -> x.end(5));
            due("read", 1, () -> x.valley());
            due("the first 5 alone", 1, () -> x.count(6));
            Kit.feed(x, "fog 9");
            due("none of them", true, () -> x.end(0));
            due("an empty text", 2, () -> x.valley());
            due("nothing of it", 1, () -> x.count(6));
        });
        test(3, "false, and nothing happens, if it has fewer, or n is below 0.", () -> {
            BeastRules x = new BeastRules();
            due("empty, 0", true, () -> x.end(0));
            due("empty, 1", false, () -> x.end(1));
            Kit.feed(x, "fog 9; fog 17");
            due("it has 13", false, () -> x.end(14));
            due("the greatest", false, () -> x.end(Integer.MAX_VALUE));
            due("below 0", false, () -> x.end(-1));
            due("the least", false, () -> x.end(Integer.MIN_VALUE));
            due("nothing happened", true, () -> x.end(13));
            due("nothing happened", 1, () -> x.valley());
            due("nothing happened", 17, () -> x.count(6));
            due("a TAPE used up", false, () -> x.end(1));
        });
    }

    // ---- 4: texts of THE VALLEY

    private static void promise4() {
        test(4, "`int valley() throws IllegalArgumentException, UnsupportedOperationException`:", () -> {
            BeastRules x = new BeastRules();
            for (int i = 0; i < 10; i++) {
                x.valley();
            }
            due("both: the one told first", ARGUMENT, () -> Kit.valley(x, "fog"));
            due("too many alone", UNSUPPORTED, () -> Kit.valley(x, "fog 1"));
            due("an empty one too many", UNSUPPORTED, () -> x.valley());
        });
        test(4, "Uses the TAPE up: a text of THE VALLEY: how many texts there are.", () -> {
            BeastRules x = new BeastRules();
            due("an empty TAPE", 1, () -> x.valley());
            due("the second", 2, () -> Kit.valley(x, "fog 1"));
            due("used up", false, () -> x.end(1));
            due("nothing of it is read again", 3, () -> x.valley());
            due("a wrong one", ARGUMENT, () -> Kit.valley(x, "fog 1;;"));
            due("used up, too", false, () -> x.end(1));
            due("the fourth", 4, () -> x.valley());
        });
        test(4, "IllegalArgumentException: it is wrong;", () -> {
            BeastRules x = Kit.of("rule a to b;field ab;seen a to b;fog 3;weight a 9", "bar if end");
            x.run(0, 1);
            String was = Kit.state(x);
            for (String wrong : new String[] {"rule c to d;x", "field c;;", "seen a to b;seen", "fog 9;fog", "first all;.", "weight a 1;weight",
                "drop 0;drop 0", "x"}) {
                due(wrong, ARGUMENT, () -> Kit.valley(x, wrong));
            }
            due("nothing happened", was, () -> Kit.state(x));
        });
        test(4, "UnsupportedOperationException: there are 10.", () -> {
            BeastRules x = Kit.of("rule a to b;field a");
            for (int i = 2; i <= 9; i++) {
                x.valley();
            }
            due("the tenth", 10, () -> Kit.valley(x, "fog 4"));
            x.put(0, c("aa"));
            x.feed(0x666f6720, 0x35202020, 0x20202020, 0x20202020, 0x20202020);
            refused(x, "the eleventh", UNSUPPORTED, () -> x.valley());
            due("the TAPE is used up", false, () -> x.end(1));
            due("still ten", 10, () -> x.count(3));
            due("THE LAW is no text of THE VALLEY", 1, () -> Kit.law(x, "bar"));
        });
        test(4, "THE VALLEY is told in texts (at most 10, one behind another):", () -> {
            BeastRules x = Kit.of("rule a to b;field a;seen a to b;weight a 5;first right;fog 9");
            Kit.valley(x, "rule c to d;field c;seen c to d;weight c 6");
            due("what was told stays", c("a"), () -> x.rule(0, false));
            due("the other comes behind", c("c"), () -> x.rule(1, false));
            due("FIELDS", c("c"), () -> x.field(1));
            due("SEEN", c("d"), () -> x.seen(1, true));
            due("weights", 11, () -> x.light(c("ac")));
            due("WAY stays", 1, () -> x.count(5));
            due("FOG stays", 9, () -> x.count(6));
        });
    }

    private static void promise4Lines() {
        test(4, "LINE { ; LINE }, at most 14:", () -> {
            marked(true, "fog 1" + ";fog 2".repeat(13), "fog 1" + ";fog 2".repeat(13) + ";^fog 3", "fog 1" + ";fog 2".repeat(13) + " ; ^fog",
                    "fog 1;^", "^;fog 1", "fog 1;^;fog 1", "fog 1 ^fog 2", "fog 1" + ";fog 1".repeat(12) + ";^");
            BeastRules x = Kit.of("fog 1" + ";fog 2".repeat(12) + ";fog 3");
            due("the 14th is told", 3, () -> x.count(6));
            due("each text has its own 14", 2, () -> Kit.valley(x, "fog 1" + ";fog 2".repeat(12) + ";fog 4"));
            due("the 14th is told", 4, () -> x.count(6));
        });
        test(4, "rule BEASTS to BEASTS | field BEASTS | seen BEASTS to BEASTS |", () -> {
            marked(true, "rule a to b", "field a", "seen a to b", "rule^", "rule a^", "rule a to^", "rule a ^b", "rule ^to b", "field^", "seen^",
                    "seen a^", "seen a to^", "seen a ^b", "field a ^to b", "rule a to b ^to c", "seen a to b ^c");
        });
        test(4, "first left | first right | first rule | first all |", () -> {
            marked(true, "first left", "first right", "first rule", "first all", "first^", "first ^none", "first ^first", "first left ^right",
                    "first ^;", "first ^0", "first ^lef", "first ^alls", "first ^a");
            String[] ways = {"left", "right", "rule", "all"};
            for (int i = 0; i < 4; i++) {
                int way = i;
                due("WAY of " + ways[way], way, () -> Kit.of("first all;first " + ways[way]).count(5));
            }
        });
        test(4, "fog N | weight B N | drop R.", () -> {
            marked(true, "fog 5", "weight a 5", "rule a to b;drop 0", "fog^", "fog ^a", "weight^", "weight a^", "weight ^5", "weight a ^b", "drop^",
                    "drop ^a", "fog 5 ^5", "weight a 5 ^5", "rule a to b;drop 0 ^0");
        });
        test(4, "R: a RULE that there is by then (those behind it have a number less);", () -> {
            marked(true, "drop ^0", "rule a to b;drop ^1", "rule a to b;rule a to b;drop 1;drop ^1", "rule a to b;drop 0;drop ^0",
                    "rule a to b" + ";rule a to b".repeat(11) + ";drop 11", "rule a to b" + ";rule a to b".repeat(11) + ";drop ^12",
                    "drop ^0;rule a to b", "rule a to b;drop ^255", "rule a to b;drop 000");
            BeastRules x = Kit.of("rule a to .;rule bb to a;rule ccc to aa;drop 0;drop 1;rule d to e");
            due("the one between is left", c("bb"), () -> x.rule(0, false));
            due("its RIGHT", c("a"), () -> x.rule(0, true));
            due("that told behind", c("d"), () -> x.rule(1, false));
            due("two", 2, () -> x.count(0));
            due("its LEFT is as long as it was", true, () -> x.fits(c("dbb"), 0, 1) && !x.fits(c("dba"), 0, 1));
            Kit.valley(x, "drop 1");
            due("of an earlier text", 1, () -> x.count(0));
        });
    }

    private static void promise4Bounds() {
        test(4, "RULES (at most 12, numbered from 0 on):", () -> {
            String twelve = "rule a to b" + ";rule a to b".repeat(11);
            marked(true, twelve, twelve + ";^rule a to b", twelve + ";drop 5;rule b to c", twelve + ";drop 5;rule b to c;^rule a");
            BeastRules x = Kit.of("rule a to b" + ";rule a to b".repeat(10) + ";rule g to h");
            due("the first", c("a"), () -> x.rule(0, false));
            due("the last", c("g"), () -> x.rule(11, false));
            due("none behind it", INDEX, () -> x.rule(12, false));
            due("a 13th by another text", ARGUMENT, () -> Kit.valley(x, "fog 1;rule a to b"));
            due("its first word", 6, () -> x.fault());
        });
        test(4, "FIELDS (at most 6, numbered from 0 on):", () -> {
            marked(true, "field a" + ";field .".repeat(5), "field a" + ";field .".repeat(5) + ";^field a");
            BeastRules x = Kit.of("field a;field b;field c;field d;field e;field f");
            due("the first", c("a"), () -> x.field(0));
            due("the last", c("f"), () -> x.field(5));
            due("none behind it", INDEX, () -> x.field(6));
            due("a 7th by another text", ARGUMENT, () -> Kit.valley(x, "field a"));
            due("its first word", 0, () -> x.fault());
        });
        test(4, "SEEN (at most 10, numbered from 0 on):", () -> {
            String ten = "seen a to b" + ";seen . to .".repeat(9);
            marked(true, ten, ten + ";^seen a to b");
            BeastRules x = Kit.of("seen a to b" + ";seen . to .".repeat(8) + ";seen c to d");
            due("the first", c("a"), () -> x.seen(0, false));
            due("the last", c("c"), () -> x.seen(9, false));
            due("none behind it", INDEX, () -> x.seen(10, false));
            due("an 11th by another text", ARGUMENT, () -> Kit.valley(x, " seen a to b"));
            due("its first word", 1, () -> x.fault());
        });
        test(4, "FOG: 0 to 100", () -> {
            marked(true, "fog 0", "fog 100", "fog 1", "fog 99", "fog ^101", "fog ^200", "fog ^999", "fog ^-1", "fog 000", "fog 007");
            due("0", 0, () -> Kit.of("fog 5;fog 0").count(6));
            due("100", 100, () -> Kit.of("fog 100").count(6));
            due("007", 7, () -> Kit.of("fog 007").count(6));
        });
        test(4, "WEIGHT of each BEAST: 0 to 99", () -> {
            marked(true, "weight a 0", "weight h 99", "weight a ^100", "weight h ^999", "weight a ^-1", "weight a 00", "weight a 099");
            due("0", 0, () -> Kit.of("weight a 5;weight a 0").light(c("a")));
            due("99", 99, () -> Kit.of("weight h 99").light(c("h")));
            due("of that BEAST alone", 7, () -> Kit.of("weight h 99").light(c("abcdefg")));
        });
    }

    private static void promise4Beasts() {
        test(4, "BEASTS: letters a to h one behind another, or . (none; not LEFT);", () -> {
            marked(true, "field abcdefgh", "field ^i", "field ^abi", "field ^z", "field ^abcz", "field .", "seen . to .", "rule a to .", "rule ^. to a",
                    "rule ^.", "field ^A", "field a^A", "field a ^b", "field a^.", "field .^.", "field .^a", "field ^`", "field ^{");
            for (int i = 0; i < 8; i++) {
                int beast = i;
                due("letter " + beast, 8L + beast, () -> Kit.of("field " + (char) ('a' + beast)).field(0));
            }
            due("none", 1, () -> Kit.of("field .").field(0));
        });
        test(4, "B: one letter;", () -> {
            marked(true, "weight a 1", "weight h 1", "weight ^i 1", "weight ^ab 1", "weight ^aa 1", "weight ^. 1", "weight ^1", "weight a1",
                    "weight ^;", "weight^", "weight ^A 1");
        });
        test(4, "at most 20 BEASTS of field, seen.", () -> {
            marked(true, "field " + a(20), "field ^" + a(21), "seen " + a(20) + " to " + a(20), "seen ^" + a(21) + " to a", "seen a to ^" + a(21),
                    "field ^" + a(40));
            due("20", c("h" + a(18) + "h"), () -> Kit.of("field h" + a(18) + "h").field(0));
            due("20 of SEEN", c("h".repeat(20)), () -> Kit.of("seen . to " + "h".repeat(20)).seen(0, true));
            due("20 of SEEN", c("h".repeat(20)), () -> Kit.of("seen " + "h".repeat(20) + " to .").seen(0, false));
        });
        test(4, "LEFT, 1 to 4 BEASTS, becomes RIGHT, 0 to 5 BEASTS.", () -> {
            marked(true, "rule a to .", "rule abcd to abcde", "rule ^abcde to a", "rule a to ^abcdef", "rule ^. to a", "rule ^" + a(20) + " to a");
            due("4", c("habh"), () -> Kit.of("rule habh to .").rule(0, false));
            due("5", c("habch"), () -> Kit.of("rule a to habch").rule(0, true));
            due("0", 1, () -> Kit.of("rule a to .").rule(0, true));
        });
        test(4, "Of a wrong text nothing stays.", () -> {
            BeastRules x = Kit.of("rule a to b;field a;seen a to b;weight b 7");
            x.run(0, 1);
            Kit.feed(x, "drop 0;rule c to d;field c;seen c to d;first all;fog 50;weight b 9;drop 1");
            refused(x, "all but the last is right", ARGUMENT, () -> x.valley());
            due("acts are remembered as before", true, () -> x.undo());
            due("as ahead of the act", c("a"), () -> x.field(0));
        });
    }

    // ---- 5: THE LAW

    private static void promise5() {
        test(5, "`int law() throws IllegalArgumentException`: Uses the TAPE up: THE LAW: how many LINES.", () -> {
            BeastRules x = new BeastRules();
            due("an empty TAPE", 0, () -> x.law());
            due("one", 1, () -> Kit.law(x, "bar"));
            due("used up", false, () -> x.end(1));
            due("three", 3, () -> Kit.law(x, "bar;bar if end;bar"));
            due("a wrong one", ARGUMENT, () -> Kit.law(x, "bar;"));
            due("used up, too", false, () -> x.end(1));
            due("none", 0, () -> x.law());
        });
        test(5, "IllegalArgumentException: the text is wrong.", () -> {
            BeastRules x = Kit.of("rule a to b;rule b to c;field ab;field ba", "bar if rule > 0 and place < 1");
            x.run(0, 1);
            String was = Kit.state(x);
            for (String wrong : new String[] {"x", "bar;bar;x", "bar if rule > 1000", "bar if", "rule a to b", ";", "bar bar"}) {
                due(wrong, ARGUMENT, () -> Kit.law(x, wrong));
            }
            due("nothing happened", was, () -> Kit.state(x));
            due("without one there is none still", NONE, () -> {
                BeastRules y = new BeastRules();
                Kit.answer(() -> Kit.law(y, "bar;"));
                return y.count(4);
            });
        });
        test(5, "THE LAW (a text, in place of the one before):", () -> {
            BeastRules x = Kit.of("rule a to b;rule b to a", "bar if rule < 1;bar if rule > 5");
            due("barred", false, () -> x.fits(c("ab"), 0, 0));
            due("not barred", true, () -> x.fits(c("ab"), 1, 1));
            Kit.law(x, "bar if rule > 0");
            due("the one before bars no more", true, () -> x.fits(c("ab"), 0, 0));
            due("the other does", false, () -> x.fits(c("ab"), 1, 1));
            due("its LINES alone", 1, () -> x.count(4));
            due("as often as one likes", 1, () -> {
                for (int i = 0; i < 20; i++) {
                    Kit.law(x, "bar");
                }
                return x.count(4);
            });
        });
        test(5, "LINE { ; LINE }, at most 12:", () -> {
            String twelve = "bar" + ";bar".repeat(11);
            marked(false, twelve, twelve + ";^bar", twelve + " ; ^bar if", twelve + ";^", "bar;^", "^;bar", "bar;^;bar", "bar ^bar");
            BeastRules x = Kit.of("rule a to b", "bar if 2 < 1" + ";bar if 2 < 1".repeat(10) + ";bar if 1 < 2");
            due("the 12th bars", false, () -> x.fits(8, 0, 0));
            due("how many", 12, () -> x.count(4));
        });
        test(5, "bar [ if C ].", () -> {
            marked(false, "bar", "bar if end", "bar if^", "^if end", "bar ^end", "bar if ^bar", "^barif end", "bar if end ^if");
            due("without C all is barred", false, () -> Kit.of("rule a to b", "bar").fits(c("aaa"), 0, 1));
            due("with C it is, if C holds", true, () -> Kit.of("rule a to b", "bar if end").fits(c("aaa"), 0, 1));
            due("with C it is, if C holds", false, () -> Kit.of("rule a to b", "bar if end").fits(c("aaa"), 0, 2));
        });
    }

    /** Whether THE LAW bars RULE 1 at PLACE 2 of 7 BEASTS, 3 of which are behind its LEFT, in YEAR 4. */
    private static void bars(String condition, boolean want) {
        BeastRules x = Kit.of("rule h to h;rule ab to c;field h");
        x.years(0, 4);
        Kit.law(x, "bar if " + condition);
        due("bar if " + condition, !want, () -> x.fits(c("ccabccc"), 1, 2));
    }

    private static void promise5Parts() {
        test(5, "C: ALL { or ALL }; ALL: ATOM { and ATOM };", () -> {
            bars("1 < 2 or 2 < 1", true);
            bars("2 < 1 or 1 < 2", true);
            bars("2 < 1 or 2 < 1", false);
            bars("2 < 1 or 2 < 1 or 1 < 2", true);
            bars("1 < 2 and 1 < 2", true);
            bars("1 < 2 and 2 < 1", false);
            bars("2 < 1 and 1 < 2", false);
            bars("1 < 2 and 1 < 2 and 2 < 1", false);
            bars("1 < 2 or 1 < 2 and 2 < 1", true);
            bars("2 < 1 and 1 < 2 or 1 < 2", true);
            bars("2 < 1 and 2 < 1 or 2 < 1", false);
            marked(false, "bar if ^or end", "bar if end or^", "bar if end and^", "bar if end or ^or end", "bar if end and ^or end");
        });
        test(5, "ATOM: not ATOM | ( C ) | end | SUM < SUM | SUM > SUM.", () -> {
            bars("not 1 < 2", false);
            bars("not 2 < 1", true);
            bars("not 1 < 2 or 1 < 2", true);
            bars("not ( 1 < 2 or 1 < 2 )", false);
            bars("( 1 < 2 or 1 < 2 ) and 2 < 1", false);
            bars("not end", true);
            bars("1 < 1", false);
            bars("1 > 1", false);
            bars("2 > 1", true);
            bars("1 > 2", false);
            marked(false, "bar if not^", "bar if (^", "bar if (end^", "bar if (^)", "bar if 1^", "bar if 1 <^", "bar if 1 < 2 ^< 3", "bar if 1 ^and 2",
                    "bar if ^< 1", "bar if 1 + ^< 2", "bar if 1 < 2 + ^> 1", "bar if not ^)", "bar if end ^< 1", "bar if (1 ^) < 2", "bar if 1 ^= 1");
        });
        test(5, "SUM: PART { + PART }; PART: NUMBER | rule | place | long | behind | year.", () -> {
            bars("1 + 1 + 1 > 2", true);
            bars("1 + 1 + 1 > 3", false);
            bars("2 < 1 + 2", true);
            bars("999 + 999 > 999 + 998", true);
            bars("999 + 999 > 999 + 998 + 1", false);
            bars("rule > 0 and rule < 2", true);
            bars("place > 1 and place < 3", true);
            bars("long > 6 and long < 8", true);
            bars("behind > 2 and behind < 4", true);
            bars("year > 3 and year < 5", true);
            bars("rule + place + long + behind + year > 16 and rule + place + long + behind + year < 18", true);
            marked(false, "bar if 1 +^", "bar if ^+ 1", "bar if 1 + ^end", "bar if 1 + ^( 1 )", "bar if ^fog < 1", "bar if 1 + ^+ 1",
                    "bar if 1 < ^end", "bar if ^a < 1", "bar if rule ^rule < 1");
        });
    }

    private static void promise5Numbers() {
        test(5, "All numbers are of 1 to 3 digits.", () -> {
            marked(false, "bar if 0 < 1", "bar if 00 < 01", "bar if 000 < 999", "bar if ^1000 < 1", "bar if 1 < ^0000", "bar if 1 < ^12345678901234567890",
                    "bar if 1 + ^0001 < 1", "bar if ^4294967296 < 1");
            marked(true, "fog 1", "fog 01", "fog 001", "fog ^0001", "fog ^1000", "weight a ^0001", "rule a to b;drop ^0000", "fog ^4294967297",
                    "fog ^18446744073709551617");
            bars("999 > 998", true);
            bars("100 > 099", true);
        });
        test(5, "Of a RULE at a PLACE of a MEADOW: long: its BEASTS; behind: those behind LEFT; end: PLACE is 0, or behind is 0.", () -> {
            BeastRules x = Kit.of("rule ab to cde", "bar if long < 4 or behind > 2");
            due("3 of them", false, () -> x.fits(c("abc"), 0, 0));
            due("4 of them, ahead of it", true, () -> x.fits(c("abcc"), 0, 0));
            due("3 behind", false, () -> x.fits(c("abccc"), 0, 0));
            due("2 behind", true, () -> x.fits(c("cabcc"), 0, 1));
            BeastRules end = Kit.of("rule ab to cde;rule a to b", "bar if end");
            due("PLACE 0", false, () -> end.fits(c("abc"), 0, 0));
            due("none behind", false, () -> end.fits(c("cab"), 0, 1));
            due("both", false, () -> end.fits(c("ab"), 0, 0));
            due("PLACE 1, one behind", true, () -> end.fits(c("cabc"), 0, 1));
            due("one of one", false, () -> end.fits(c("a"), 1, 0));
            for (String atEnd : new String[] {"end and 1 < 2", "1 < 2 and end", "end and end", "end or 2 < 1", "not not end", "not (not end)"}) {
                due("at an end: " + atEnd, false, () -> Kit.of("rule a to b", "bar if " + atEnd).fits(c("ab"), 0, 0));
                due("within: " + atEnd, true, () -> Kit.of("rule a to b", "bar if " + atEnd).fits(c("bab"), 0, 1));
            }
            for (String within : new String[] {"not end", "not end and not end", "not end or 2 < 1", "not not not end", "not (end and end)"}) {
                due("at an end: " + within, true, () -> Kit.of("rule a to b", "bar if " + within).fits(c("ba"), 0, 1));
                due("within: " + within, false, () -> Kit.of("rule a to b", "bar if " + within).fits(c("bab"), 0, 1));
            }
            due("one within", true, () -> end.fits(c("cac"), 1, 1));
        });
    }

    private static void promise5Deep() {
        test(5, "( and not within one another at most 6 deep.", () -> {
            String six = "( ".repeat(6);
            marked(false, "bar if " + six + "end" + ")".repeat(6), "bar if " + six + "^( end" + ")".repeat(7), "bar if " + "not ".repeat(6) + "end",
                    "bar if " + "not ".repeat(6) + "^not end", "bar if " + "not ( ".repeat(3) + "end" + ")".repeat(3),
                    "bar if " + "not ( ".repeat(3) + "^not end", "bar if " + "not ( ".repeat(3) + "^( end", "bar if " + six + "^(",
                    "bar if " + "not ".repeat(6) + "^( end )");
            // Beside one another there may be more of them.
            marked(false, "bar if (((end))) and (((end))) or not not not not not not end and ((((((end))))))",
                    "bar if ((((((end)) and ((end)))))) or not end and not end and not end and not end and not end and not end and not end");
            bars("not not not not not not 1 < 2", true);
            bars("not not not not not 1 < 2", false);
            bars("((((((1 < 2 and 2 < 1))))))", false);
            bars("((((((2 < 1 or 1 < 2))))))", true);
            bars("not (not (not (1 < 2)))", false);
        });
        test(5, "( and not within one another at most 6 deep.", () -> {
            // As much waits to be reckoned as ever can.
            for (int last = 0; last < 2; last++) {
                boolean holds = last == 1;
                String inmost = "2<1 or 1<2 and 1+" + (holds ? "1" : "3") + "<1+2";
                bars("2<1 or 1<2 and (".repeat(6) + inmost + ")".repeat(6), holds);
                bars("2<1 or 1<2 and not(".repeat(3) + inmost + ")".repeat(3), !holds);
            }
            // The longest law that a TAPE holds.
            String longest = "bar if 1" + "+1".repeat(193) + "<194";
            bars(longest.substring(7), false);
            bars("1" + "+1".repeat(192) + "<194", true);
        });
    }

    // ---- 6: the first wrong byte

    private static void promise6() {
        test(6, "`int fault()`: The first wrong byte of the latest text that was read;", () -> {
            BeastRules x = new BeastRules();
            due("wrong", ARGUMENT, () -> Kit.valley(x, "fog 1;fog a"));
            due("its byte", 10, () -> x.fault());
            due("asked again", 10, () -> x.fault());
            due("a law", ARGUMENT, () -> Kit.law(x, "bar if 1 ^ 2"));
            due("its byte", 9, () -> x.fault());
            due("byte 0", ARGUMENT, () -> Kit.valley(x, "x"));
            due("byte 0", 0, () -> x.fault());
            due("the last byte", ARGUMENT, () -> Kit.valley(x, " ".repeat(399) + "x"));
            due("the last byte", 399, () -> x.fault());
        });
        test(6, "NONE without one, and ahead of any.", () -> {
            BeastRules x = new BeastRules();
            due("ahead of any", NONE, () -> x.fault());
            x.feed(0, 0, 0, 0, 0);
            due("a TAPE is no text yet", NONE, () -> x.fault());
            due("wrong", ARGUMENT, () -> x.valley());
            due("byte 0", 0, () -> x.fault());
            due("a right one", 1, () -> x.valley());
            due("without one", NONE, () -> x.fault());
            due("wrong", ARGUMENT, () -> Kit.law(x, " x"));
            due("byte 1", 1, () -> x.fault());
            due("a right law", 0, () -> x.law());
            due("without one", NONE, () -> x.fault());
        });
        test(6, "or the text's length, if more must come.", () -> {
            marked(true, "rule^", "rule   ^", "rule a^", "rule a to^", "field^", "fog^", "weight a^", "fog 1;^", "fog 1;  ^", "drop^", "first^");
            marked(false, "bar if^", "bar if   ^", "bar if rule^", "bar if rule <^", "bar if (^", "bar if (end^", "bar if (end  ^", "bar;^",
                    "bar if not^", "bar if end or^", "bar if 1 +^");
            BeastRules full = new BeastRules();
            Kit.feed(full, "field" + " ".repeat(395));
            due("a full TAPE", ARGUMENT, () -> full.valley());
            due("its length", 400, () -> full.fault());
        });
        test(6, "Words are as long as a to z go on; between all there may be blanks (32), also ahead and behind.", () -> {
            marked(true, "rule ab to ba", "  rule  ab  to  ba  ", "rule ab to.", "field.", "fog5;fog 6", "weight a5", "^ruleab to ba", "rule ^abto ba",
                    "rule ab ^toba", "^fieldab", "^f og 1", "fog 1 ^0", "field a ^b", "fog^\t1", "^\nfog 1", "fog 1^\n", "fog^\u00a01",
                    "fog^\u001f1", "fog^!1", "fog^\u00001", "fog 1^a", "first left^.", "^Fog 1", "^fOG 1", "fog 1;^FOG 1", "fog 1;^fo`");
            marked(false, "bar if 1<2", " bar  if  1  <  2  ", "bar if1<2", "bar if(end)or(end)", "bar if not(end)", "^barif end", "bar if ^notend",
                    "bar if end ^orend", "bar if 1<2and 2<3or end", "bar if 1^\t<2", "bar^\n");
        });
        test(6, "A text that is empty, or blanks alone, has no LINE.", () -> {
            BeastRules x = new BeastRules();
            due("empty", 1, () -> x.valley());
            due("one blank", 2, () -> Kit.valley(x, " "));
            due("400 blanks", 3, () -> Kit.valley(x, " ".repeat(400)));
            due("an empty law", 0, () -> x.law());
            due("LINES", 0, () -> x.count(4));
            due("a law of blanks", 0, () -> Kit.law(x, " ".repeat(400)));
            due("no wrong byte", NONE, () -> x.fault());
        });
    }

    private static void promise6Things() {
        test(6, "The first wrong byte: the begin of the first thing that cannot stand there", () -> {
            marked(true, "fog 1;^z;fog a", "fog ^a;fog b", "^to", "^a", "^5", "^.", "^+", "rule a ^. b", "field ^to", "fog ^.", "fog ^fog");
            marked(false, "bar if ^z;bar if", "^rule a to b", "^5", "bar if ^;", "bar if end^)");
        });
        test(6, "(a number of more digits, or out of its bounds, or that tells no RULE;", () -> {
            marked(true, "fog   ^0000", "fog ^101", "weight a ^100", "weight a  ^0000", "drop ^0", "rule a to b;drop  ^1", "rule a to b;drop ^0000");
            marked(false, "bar if 1 < ^0000", "bar if ^1000 < 1");
        });
        test(6, "BEASTS with other letters, or too many, or none where some must be;", () -> {
            marked(true, "field ^abcdefghi", "field ^" + a(21), "field  ^;", "field ^5", "rule ^. to a", "rule ^abcde to a", "rule a to ^abcdef",
                    "rule a to ^abj", "rule a to ^;", "weight ^. 1", "seen ^; to a", "seen a to ^i", "seen ^i to a");
        });
        test(6, "a word that is none;", () -> {
            marked(true, "^rulex a to b", "rule a ^tox b", "first ^lefty", "^fogs 1", "^weigh a 1", "^drops 0", "^fiel", "^see", "^firs");
            marked(false, "^barx", "bar ^ifx", "bar if ^nots end", "bar if ^ends", "bar if end ^ore", "bar if end ^ands", "bar if ^ruler < 1",
                    "bar if ^places < 1", "bar if ^longer < 1", "bar if ^behinds < 1", "bar if ^years < 1");
        });
        test(6, "a word that is none;", () -> {
            // A word with any of its letters another, or one letter less or more, is none.
            for (String text : new String[] {"rule a to b", "field a", "seen a to b", "first left", "first right", "first rule", "first all", "fog 1",
                "weight a 1", "fog 1;drop 0"}) {
                spoiled(true, text);
            }
            for (String text : new String[] {"bar if end", "bar if not end", "bar if end or end", "bar if end and end", "bar if rule < place",
                "bar if long + behind > year"}) {
                spoiled(false, text);
            }
            marked(true, "fog^{1", "fog^|1", "fog^~1", "fog^`1", "fog^@1", "fog^/1", "fog^:1", "fog 1^/", "fog 1^:", "field a^{", "field a^`");
        });
        test(6, "the ( or not that is a 7th one deep;", () -> {
            marked(false, "bar if " + "(".repeat(6) + "^(end", "bar if " + "not ".repeat(6) + "  ^not end", "bar if " + "(not ".repeat(3) + "^(end",
                    "bar if " + "not(".repeat(3) + "^not end", "bar if (end) and " + "(".repeat(6) + "^(");
        });
        test(6, "of a LINE too many, of a RULE, FIELD, SEEN too many, the first word),", () -> {
            marked(true, "fog 1" + ";fog 1".repeat(13) + ";  ^fog 1", "fog 1" + ";fog 1".repeat(13) + ";^beast",
                    "rule a to b" + ";rule a to b".repeat(11) + ";  ^rule a to b", "rule a to b" + ";rule a to b".repeat(11) + ";^rule i",
                    "field a" + ";field a".repeat(5) + ";  ^field a", "field a" + ";field a".repeat(5) + ";^field i",
                    "seen a to b" + ";seen . to .".repeat(9) + ";  ^seen a to b", "seen a to b" + ";seen . to .".repeat(9) + ";^seen");
            marked(false, "bar" + ";bar".repeat(11) + ";  ^bar", "bar" + ";bar".repeat(11) + ";^beast");
        });
    }

    /** Each word of a right text but BEASTS is spoiled; all of these are wrong at its begin. */
    private static void spoiled(boolean valley, String text) {
        int begin = 0;
        while (begin < text.length()) {
            int end = begin;
            while (end < text.length() && Character.isLetter(text.charAt(end))) {
                end++;
            }
            String ahead = text.substring(0, begin) + "^";
            String word = text.substring(begin, end);
            String behind = text.substring(end);
            if (word.length() > 1) {
                for (int i = 0; i < word.length(); i++) {
                    marked(valley, ahead + word.substring(0, i) + "x" + word.substring(i + 1) + behind);
                }
                marked(valley, ahead + word + "x" + behind);
                marked(valley, ahead + "x" + word + behind);
                marked(valley, ahead + word.substring(1) + behind);
                marked(valley, ahead + word.substring(0, word.length() - 1) + behind);
            }
            begin = end + 1;
        }
    }

    // ---- 7 to 9: what was told

    private static void promise7() {
        test(7, "`long rule(int rule, boolean right) throws IndexOutOfBoundsException`:", () -> {
            BeastRules x = Kit.of("rule a to b;rule c to d");
            due("behind the last", INDEX, () -> x.rule(2, false));
            due("behind the last", INDEX, () -> x.rule(2, true));
            for (int far : FAR) {
                due("rule " + far, INDEX, () -> x.rule(far, false));
                due("rule " + far, INDEX, () -> x.rule(far, true));
            }
            x.drop(1);
            due("dropped", INDEX, () -> x.rule(1, false));
            due("none at all", INDEX, () -> new BeastRules().rule(0, true));
        });
        test(7, "CODE of a RULE's LEFT (right false), or RIGHT.", () -> {
            BeastRules x = Kit.of("rule a to .;rule hgfe to hgfed");
            due("LEFT of 1", 8, () -> x.rule(0, false));
            due("RIGHT of none", 1, () -> x.rule(0, true));
            due("LEFT of 4", c("hgfe"), () -> x.rule(1, false));
            due("RIGHT of 5", c("hgfed"), () -> x.rule(1, true));
        });
    }

    private static void promise8() {
        test(8, "`long field(int field) throws IndexOutOfBoundsException`: CODE of a FIELD.", () -> {
            BeastRules x = Kit.of("field .;field " + "h".repeat(20));
            due("of none", 1, () -> x.field(0));
            due("of 20", (1L << 61) - 1, () -> x.field(1));
            due("behind the last", INDEX, () -> x.field(2));
            for (int far : FAR) {
                due("field " + far, INDEX, () -> x.field(far));
            }
            due("none at all", INDEX, () -> new BeastRules().field(0));
        });
        test(8, "Its CODE: 1, then each BEAST from the left on as three figures of base 2 (none: 1; a: 8; ba: 72).", () -> {
            due("none", 1, () -> Kit.of("field .").field(0));
            due("a", 8, () -> Kit.of("field a").field(0));
            due("ba", 72, () -> Kit.of("field ba").field(0));
            due("h", 15, () -> Kit.of("field h").field(0));
            due("ab", 65, () -> Kit.of("field ab").field(0));
            due("20 a", 1L << 60, () -> Kit.of("field " + a(20)).field(0));
        });
    }

    private static void promise9() {
        test(9, "`long seen(int seen, boolean became) throws IndexOutOfBoundsException`:", () -> {
            BeastRules x = Kit.of("seen a to b;seen c to d");
            due("behind the last", INDEX, () -> x.seen(2, false));
            for (int far : FAR) {
                due("seen " + far, INDEX, () -> x.seen(far, false));
                due("seen " + far, INDEX, () -> x.seen(far, true));
            }
            due("none at all", INDEX, () -> new BeastRules().seen(0, false));
        });
        test(9, "CODE of a SEEN: ahead (became false), or what it became.", () -> {
            BeastRules x = Kit.of("seen ba to .;seen . to " + "h".repeat(20));
            due("ahead", 72, () -> x.seen(0, false));
            due("became none", 1, () -> x.seen(0, true));
            due("ahead none", 1, () -> x.seen(1, false));
            due("became 20", (1L << 61) - 1, () -> x.seen(1, true));
        });
        test(9, "a MEADOW, and what it became by one RULE at one PLACE.", () -> {
            // It is told, and need not be so by any RULE there is.
            due("without a RULE", 1, () -> Kit.valley(new BeastRules(), "seen abc to h"));
            due("of nothing", 1, () -> Kit.valley(new BeastRules(), "seen . to ."));
        });
    }

    // ---- 10: a MEADOW's BEASTS

    private static void promise10() {
        test(10, "`int beast(long meadow, int k) throws IllegalArgumentException`:", () -> {
            BeastRules x = new BeastRules();
            for (long none : NO_CODES) {
                due("CODE " + none, ARGUMENT, () -> x.beast(none, 0));
                due("CODE " + none + ", and no such BEAST", ARGUMENT, () -> x.beast(none, -1));
            }
        });
        test(10, "Of a MEADOW (by its CODE) BEAST k (0 the first);", () -> {
            BeastRules x = new BeastRules();
            for (int i = 0; i < 8; i++) {
                int k = i;
                due("BEAST " + k, 7 - k, () -> x.beast(c("hgfedcba"), k));
            }
            due("of 20 the first", 5, () -> x.beast(c("f" + a(19)), 0));
            due("of 20 the last", 6, () -> x.beast(c(a(19) + "g"), 19));
        });
        test(10, "NONE, if there is none. IllegalArgumentException.", () -> {
            BeastRules x = new BeastRules();
            due("of none", NONE, () -> x.beast(1, 0));
            due("behind the last", NONE, () -> x.beast(c("ab"), 2));
            due("behind the 20th", NONE, () -> x.beast((1L << 61) - 1, 20));
            due("below 0", NONE, () -> x.beast(c("ab"), -1));
            for (int far : FAR) {
                due("k " + far, NONE, () -> x.beast(c("abcdefgh"), far));
            }
        });
        test(10, "BEASTS: a to h (0 to 7).", () -> {
            due("a", 0, () -> new BeastRules().beast(8, 0));
            due("h", 7, () -> new BeastRules().beast(15, 0));
        });
        test(10, "A MEADOW: 0 to 20 BEASTS in a row.", () -> {
            BeastRules x = new BeastRules();
            due("0", NONE, () -> x.beast(1, 0));
            due("20, the least CODE", 0, () -> x.beast(1L << 60, 19));
            due("20, the greatest CODE", 7, () -> x.beast((1L << 61) - 1, 19));
            due("21", ARGUMENT, () -> x.beast(1L << 63, 0));
            // Each number up to 4496 is one just if its 1 stands ahead of threes.
            for (int first = -4; first < 4496; first += 500) {
                BeastRules y = new BeastRules();
                for (int code = first; code < first + 500; code++) {
                    boolean is = code == 1 || code >> 3 == 1 || code >> 6 == 1 || code >> 9 == 1 || code >> 12 == 1;
                    int number = code;
                    due("CODE " + number, is ? NONE : ARGUMENT, () -> y.beast(number, 20));
                }
            }
            for (int figures = 0; figures < 63; figures++) {
                long least = 1L << figures;
                long most = 2 * least - 1;
                Object want = figures % 3 == 0 && figures <= 60 ? NONE : ARGUMENT;
                due("CODE " + least, want, () -> new BeastRules().beast(least, 20));
                due("CODE " + most, want, () -> new BeastRules().beast(most, 20));
            }
        });
    }

    // ---- 11, 12: STEPS and MAKERS

    private static void promise11() {
        test(11, "`int steps(int field) throws IndexOutOfBoundsException`: Of a FIELD how many STEPS were gone.", () -> {
            BeastRules x = Kit.of("rule a to b;rule b to a;field a;field aa");
            x.run(0, 200);
            x.use(1, 0, 1);
            due("200", 200, () -> x.steps(0));
            due("of that FIELD alone", 1, () -> x.steps(1));
            x.undo();
            due("undone", 0, () -> x.steps(1));
            due("behind the last", INDEX, () -> x.steps(2));
            for (int far : FAR) {
                due("field " + far, INDEX, () -> x.steps(far));
            }
            due("none at all", INDEX, () -> new BeastRules().steps(0));
        });
        test(11, "MEADOWS that are there, with STEPS gone (0 at first);", () -> {
            BeastRules x = Kit.of("rule a to b;field a;field .");
            due("at first", 0, () -> x.steps(0));
            due("at first", 0, () -> x.steps(1));
            x.run(0, 200);
            x.run(1, 200);
            due("one was gone", 1, () -> x.steps(0));
            due("none could be gone", 0, () -> x.steps(1));
        });
    }

    private static void promise12() {
        test(12, "`int maker(int field, int place, int what) throws IndexOutOfBoundsException, NoSuchElementException`:", () -> {
            BeastRules x = Kit.of("rule a to b;field aa;field .");
            due("no such FIELD ahead of no such what", INDEX, () -> x.maker(2, 0, 2));
            due("no such PLACE ahead of no such what", INDEX, () -> x.maker(0, 2, 2));
            due("no such PLACE of an empty FIELD", INDEX, () -> x.maker(1, 0, -1));
            due("no such what alone", ELEMENT, () -> x.maker(0, 0, 2));
        });
        test(12, "MAKER of the BEAST at a PLACE of a FIELD what 0 the RULE (its number then), 1 the STEP;", () -> {
            BeastRules x = Kit.of("rule h to h;rule a to b;field aaa");
            x.use(0, 1, 2);
            x.use(0, 1, 0);
            due("the RULE", 1, () -> x.maker(0, 0, 0));
            due("the STEP", 2, () -> x.maker(0, 0, 1));
            due("the RULE", 1, () -> x.maker(0, 2, 0));
            due("the STEP", 1, () -> x.maker(0, 2, 1));
            x.drop(0);
            due("its number then", 1, () -> x.maker(0, 0, 0));
            x.use(0, 0, 1);
            due("its number by then", 0, () -> x.maker(0, 1, 0));
        });
        test(12, "NONE without. IndexOutOfBoundsException: there is no such FIELD, PLACE; NoSuchElementException: another what.", () -> {
            BeastRules x = Kit.of("rule a to b;field aca;field .");
            x.run(0, 1);
            due("without", NONE, () -> x.maker(0, 1, 0));
            due("without", NONE, () -> x.maker(0, 1, 1));
            due("behind the last PLACE", INDEX, () -> x.maker(0, 3, 0));
            due("ahead of the first", INDEX, () -> x.maker(0, -1, 1));
            due("of none", INDEX, () -> x.maker(1, 0, 0));
            due("behind the last FIELD", INDEX, () -> x.maker(2, 0, 0));
            for (int far : FAR) {
                due("field " + far, INDEX, () -> x.maker(far, 0, 0));
                due("place " + far, INDEX, () -> x.maker(0, far, 1));
                due("what " + far, ELEMENT, () -> x.maker(0, 0, far));
            }
            due("what 2", ELEMENT, () -> x.maker(0, 0, 2));
        });
        test(12, "each BEAST has a MAKER: the RULE that made it and the STEP (of this FIELD, from 1 on) in which; none at first.", () -> {
            BeastRules x = Kit.of("rule a to b;field a;field aa;field " + "c".repeat(20));
            for (int i = 0; i < 20; i++) {
                int place = i;
                due("none at first", NONE, () -> x.maker(2, place, 0));
                due("none at first", NONE, () -> x.maker(2, place, 1));
            }
            x.run(0, 1);
            x.run(1, 2);
            due("from 1 on", 1, () -> x.maker(0, 0, 1));
            due("of this FIELD", 1, () -> x.maker(1, 0, 1));
            due("of this FIELD", 2, () -> x.maker(1, 1, 1));
        });
    }

    private static void promise12Made() {
        test(12, "MAKERS: a BEAST of RIGHT is made by that RULE in that STEP (also one that was of LEFT, too); all others keep theirs.", () -> {
            BeastRules x = Kit.of("rule ab to aab;rule c to .;field cabc");
            x.use(0, 0, 1);
            x.use(0, 0, 2);
            // c a a a b c: the second use made the last three of a a a b.
            int[] steps = {NONE, 1, 2, 2, 2, NONE};
            for (int i = 0; i < 6; i++) {
                int place = i;
                due("STEP at " + place, steps[place], () -> x.maker(0, place, 1));
                due("RULE at " + place, steps[place] == NONE ? NONE : 0, () -> x.maker(0, place, 0));
            }
            x.use(0, 1, 0);
            due("those behind keep theirs", 1, () -> x.maker(0, 0, 1));
            due("those behind keep theirs", NONE, () -> x.maker(0, 4, 1));
            due("no fifth", INDEX, () -> x.maker(0, 5, 1));
        });
        test(12, "(all: each by its own RULE, in the one STEP.)", () -> {
            BeastRules x = Kit.of("first all;rule a to bb;rule c to .;rule d to e;field acgd");
            x.run(0, 1);
            int[] rules = {0, 0, NONE, 2};
            due("b b g e", c("bbge"), () -> x.field(0));
            for (int i = 0; i < 4; i++) {
                int place = i;
                due("RULE at " + place, rules[place], () -> x.maker(0, place, 0));
                due("STEP at " + place, rules[place] == NONE ? NONE : 1, () -> x.maker(0, place, 1));
            }
            due("one STEP", 1, () -> x.steps(0));
            BeastRules full = Kit.of("first all;rule a to bb;field " + a(10));
            full.run(0, 1);
            due("the 20th", 0, () -> full.maker(0, 19, 0));
            due("the 20th", 1, () -> full.maker(0, 19, 1));
        });
    }

    // ---- 13: where a RULE fits

    private static void promise13() {
        test(13, "`boolean fits(long meadow, int rule, int place) throws IndexOutOfBoundsException, IllegalArgumentException`:", () -> {
            BeastRules x = Kit.of("rule a to b");
            due("both: the one told first", INDEX, () -> x.fits(0, 1, 0));
            due("no such RULE", INDEX, () -> x.fits(8, 1, 0));
            for (int far : FAR) {
                due("rule " + far, INDEX, () -> x.fits(8, far, 0));
            }
            for (long none : NO_CODES) {
                due("CODE " + none, ARGUMENT, () -> x.fits(none, 0, 0));
            }
            due("no CODE, and no such PLACE", ARGUMENT, () -> x.fits(2, 0, -1));
        });
        test(13, "Whether a RULE fits a MEADOW at a PLACE (false, if there is no such PLACE). IllegalArgumentException.", () -> {
            BeastRules x = Kit.of("rule a to b");
            due("the last PLACE", true, () -> x.fits(c("ba"), 0, 1));
            due("behind it", false, () -> x.fits(c("ba"), 0, 2));
            due("of none", false, () -> x.fits(1, 0, 0));
            due("the 20th", true, () -> x.fits(c("b".repeat(19) + "a"), 0, 19));
            due("behind the 20th", false, () -> x.fits(c(a(20)), 0, 20));
            for (int far : FAR) {
                due("place " + far, false, () -> x.fits(c("aaaaaaaa"), 0, far));
            }
        });
        test(13, "A RULE FITS a MEADOW at a PLACE (0 the first BEAST), if LEFT stands there,", () -> {
            BeastRules x = Kit.of("rule abca to d;rule a to b");
            due("the whole MEADOW", true, () -> x.fits(c("abca"), 0, 0));
            due("at the begin", true, () -> x.fits(c("abcaa"), 0, 0));
            due("at the end", true, () -> x.fits(c("aabca"), 0, 1));
            due("not there", false, () -> x.fits(c("aabca"), 0, 0));
            due("over the end", false, () -> x.fits(c("aabc"), 0, 1));
            due("the first another", false, () -> x.fits(c("bbca"), 0, 0));
            due("the last another", false, () -> x.fits(c("abcb"), 0, 0));
            due("longer than the MEADOW", false, () -> x.fits(c("abc"), 0, 0));
            due("not what only begins alike", false, () -> x.fits(c("abcc"), 0, 0));
            // Of an a the figures are 0, as those ahead of the 1 of a CODE.
            due("ahead of the first", false, () -> x.fits(c("b"), 1, -1));
        });
    }

    private static void promise13Bounds() {
        test(13, "the MEADOW behind it has 20 BEASTS at most,", () -> {
            BeastRules x = Kit.of("rule a to bbbbb;rule aaaa to bbbbb;rule a to .;rule a to b");
            due("16 and 4", true, () -> x.fits(c(a(16)), 0, 3));
            due("17 and 4", false, () -> x.fits(c(a(17)), 0, 3));
            due("19 and 1", true, () -> x.fits(c(a(19)), 1, 0));
            due("20 and 1", false, () -> x.fits(c(a(20)), 1, 0));
            due("20 less 1", true, () -> x.fits(c(a(20)), 2, 0));
            due("20 as they are", true, () -> x.fits(c(a(20)), 3, 19));
        });
        test(13, "and no bar LINE of THE LAW holds:", () -> {
            BeastRules x = Kit.of("rule a to b;rule a to c", "bar if place > 3;bar if rule > 0 and long > 4");
            due("none holds", true, () -> x.fits(c(a(5)), 0, 3));
            due("the first holds", false, () -> x.fits(c(a(5)), 0, 4));
            due("the second holds", false, () -> x.fits(c(a(5)), 1, 3));
            due("none holds", true, () -> x.fits(c(a(4)), 1, 3));
            // RULE 11 at each PLACE of 20.
            BeastRules twelve = Kit.of("rule a to b" + ";rule a to b".repeat(11), "bar if rule > 10 and place > 4 and place < 18 and long > 19");
            for (int i = 0; i < 20; i++) {
                int place = i;
                due("RULE 11 at " + place, place < 5 || place > 17, () -> twelve.fits(c(a(20)), 11, place));
                due("RULE 10 at " + place, true, () -> twelve.fits(c(a(20)), 10, place));
                due("RULE 11 of 19 at " + place, place < 19, () -> twelve.fits(c(a(19)), 11, place));
            }
            // In one call one RULE is barred at one length, another one at another.
            BeastRules lengths = Kit.of("rule a to .;rule a to .", "bar if rule < 1 and long > 19; bar if rule < 1 and long < 2");
            due("20 to none", 20, () -> lengths.settles(c(a(20)), 500, false));
            due("a law without LINES", true, () -> {
                Kit.law(x, "");
                return x.fits(c(a(5)), 1, 4);
            });
        });
    }
}

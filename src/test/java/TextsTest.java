/** Texts of THE VALLEY and of THE LAW: ^ stands ahead of the first wrong byte; a text without ^ is right. */
public final class TextsTest {
    private static final String[] VALLEY = {
        "", "   ", "rule a to b", "  rule  a  to  b  ", "rule abcd to efgha", "rule h to .", "rule a to.", "field.", "field .",
        "field abcdefghabcdefghabcd", "seen . to .", "seen.to.", "seen abcdefghabcdefghabcd to abcdefghabcdefghabcd",
        "first left", "first right", "first rule", "first all", "fog 0", "fog 100", "fog 000", "fog0", "fog 099",
        "weight a 0", "weight h 99", "weight a9", "weight a 009", "rule a to b;drop 0", "rule a to b;rule a to b;drop 1;drop 0",
        "fog 1;fog 2 ; fog 3", "rule a to b;drop0;rule b to a",
        "^rul a to b", "^rules a to b", "^Rule a to b", "^rul", "^;", "  ^;fog 1", "fog 1;^", "fog 1 ;  ^", "fog 1;^;fog 2",
        "^5", "^.", "^\u00e9", "^\u0000", "^\tfog 1", "fog 1^\n", "fog 1;^\nfog 2",
        "rule^", "rule ^", "rule ^.to a", "rule ^. to a", "rule ^i to a", "rule ^abcde to a", "rule ^abz to a", "rule ^5 to a",
        "rule ^to to a", "rule a^", "rule a  ^b", "rule a ^tob", "rule a ^t o b", "rule ^ato b", "rule a ^. b", "rule a ^;",
        "rule a to^", "rule a to ^abcdefa", "rule a to ^abcdef", "rule a to ^x", "rule a to ^;", "rule a to .^.", "rule a to .^a",
        "rule a to b ^c", "rule a to b ^to", "rule a to b^.", "rule a to b^5", "rule a^;fog 1",
        "field^", "field ^;", "field ^i", "field ^abcdefghabcdefghabcda", "field a ^b", "field a^.", "field .^.", "field ^5",
        "field ^A", "field a^A",
        "seen^", "seen a^", "seen a to^", "seen ^z to a", "seen a ^a", "seen a to ^abcdefghabcdefghabcda",
        "seen ^abcdefghabcdefghabcda to .", "seen . ^a", "seen . to . ^to",
        "first^", "first ^up", "first ^lef", "first ^leftright", "first ^5", "first ^.", "first left ^right", "first ^;",
        "fog^", "fog ^a", "fog ^101", "fog ^999", "fog ^1000", "fog ^0001", "fog ^12345678901234567890", "fog ^.", "fog ^-1",
        "fog 1 ^1", "fog 10^a", "fog ^;", "fog ^4294967297",
        "weight^", "weight a^", "weight ^ab 1", "weight ^i 1", "weight ^. 1", "weight ^5 1", "weight a ^100", "weight a ^0099",
        "weight a ^b", "weight a ^;", "weight a 5 ^5", "weight ^;",
        "drop^", "drop ^0", "drop ^a", "rule a to b;drop ^1", "rule a to b;drop 0;drop ^0", "rule a to b;drop ^0000",
        "rule a to b;drop ^;", "rule a to b;drop 0^a",
        "fog 1" + ";fog 1".repeat(13), "fog 1" + ";fog 1".repeat(13) + ";^fog 1", "fog 1" + ";fog 1".repeat(13) + "; ^x",
        "fog 1" + ";fog 1".repeat(13) + ";^", "fog 1" + ";fog 1".repeat(13) + "; ^;",
        "rule a to b" + ";rule a to b".repeat(11), "rule a to b" + ";rule a to b".repeat(11) + "; ^rule a to b",
        "rule a to b" + ";rule a to b".repeat(11) + "; ^rule z", "rule a to b" + ";rule a to b".repeat(11) + ";drop 3;rule c to d",
        "field a" + ";field .".repeat(5), "field a" + ";field .".repeat(5) + ";^field b",
        "seen a to b" + ";seen . to .".repeat(9), "seen a to b" + ";seen . to .".repeat(9) + ";  ^seen . to .",
        "rule a to b ^or", "rule a to b^,", "fog ^fog", "^a", "^ab to ba", "^to",
    };

    private static final String[] LAW = {
        "", "  ", "bar", " bar ", "bar;bar", "bar if end", "bar if 1 < 2", "bar if 1<2", "bar if1<2", "bar if rule+place+long+behind+year>999",
        "bar if (end)", "bar if(end)", "bar if not end", "bar if not(end)", "bar if end or end and end", "bar if ( ( ( ( ( (end) ) ) ) ) )",
        "bar if not not not not not not end", "bar if not(not(not(end)))", "bar if (end) or ((((((end))))))",
        "bar if not not not not not not end and not not not not not not end", "bar if 000 < 01 + 2+3", "bar if end;bar;bar if end",
        "^ba", "^bars", "^if", "^;", "bar;^", "bar ;  ^", "bar;^;bar", "bar ^end", "bar ^not", "bar ^5", "bar ^(", "bar ^bar",
        "bar if^", "bar if  ^", "bar ^iff", "bar if ^;", "bar if ^if", "bar if ^or", "bar if ^and end", "bar if ^)", "bar if (^)",
        "bar if end ^end", "bar if end ^5", "bar if end ^< 5", "bar if end^)", "bar if end or^", "bar if end and^", "bar if end or ^;",
        "bar if end or ^and end", "bar if end;^", "bar if ^ends",
        "bar if 1^", "bar if 1 ^2", "bar if 1 ^;", "bar if 1 ^= 2", "bar if 1 <^", "bar if 1 < ^;", "bar if 1 < ^<", "bar if 1 < 2 ^< 3",
        "bar if 1 < 2 ^> 3", "bar if 1 +^", "bar if 1 + ^+", "bar if 1 + 2^", "bar if 1 < 2 +^", "bar if ^+ 1 < 2", "bar if ^-1 < 2",
        "bar if ^1000 < 2", "bar if 1 < ^0001", "bar if 999 < 999", "bar if ^rules < 1", "bar if rule ^rule < 1", "bar if place ^long",
        "bar if 1 + ^end", "bar if 1 < ^end", "bar if 1 < ^(1)", "bar if (1 ^) < 2", "bar if ((1 < 2^", "bar if (1 < 2^;", "bar if (1 < 2) ^)",
        "bar if (1 < 2 ^bar", "bar if (end or^", "bar if (end or ^)", "bar if not^", "bar if not ^;", "bar if not ^and", "bar if not not1^",
        "bar if (((((( ^(end", "bar if not not not not not not ^not end", "bar if not(not(not(^not end)))", "bar if ((not((not^((end",
        "bar if (((((end))))) or ((((((^(end", "bar if year^1",
        "bar if 1 < 2 ^, 3", "bar if ^A", "bar if end^\u00ff", "bar if 1 < 2 or 3 ^4",
        "bar" + ";bar".repeat(11), "bar" + ";bar".repeat(11) + ";^bar", "bar" + ";bar".repeat(11) + "; ^x", "bar" + ";bar".repeat(11) + ";^",
    };

    public static void main(String[] args) {
        for (String marked : VALLEY) {
            look(marked, true);
        }
        for (String marked : LAW) {
            look(marked, false);
        }
        nothingStays();
        Kit.finish("TextsTest");
    }

    private static void look(String marked, boolean valley) {
        BeastRules x = new BeastRules();
        int at = marked.indexOf('^');
        String text = at < 0 ? marked : marked.substring(0, at) + marked.substring(at + 1);
        Kit.feed(x, text);
        Object due = at >= 0 ? "throws.IllegalArgumentException" : valley ? 1 : text.isBlank() ? 0 : text.split(";", -1).length;
        Kit.due(marked, due, () -> valley ? x.valley() : x.law());
        Kit.due(marked + ": fault", at, () -> x.fault());
        Kit.due(marked + ": the TAPE", false, () -> x.end(1));
    }

    private static void nothingStays() {
        for (String marked : VALLEY) {
            if (marked.indexOf('^') >= 0) {
                BeastRules x = Kit.of("rule a to b;field ab;seen a to b;fog 7;first right;weight a 9;weight b 8", "bar if place > 0");
                x.run(0, 1);
                Kit.feed(x, marked.replace("^", ""));
                Kit.answer(() -> x.valley());
                int[] was = {x.count(0) == 12 ? 12 : 1, 1, 1, 1, 1, 1, 7, 0, 1, 2, 1};
                // With a RULE, FIELD or SEEN told already, some of these are wrong elsewhere, or right.
                if (x.count(3) == 1) {
                    for (int what = 0; what < was.length; what++) {
                        int w = what;
                        Kit.due(marked + ": count(" + w + ")", was[w], () -> x.count(w));
                    }
                    Kit.due(marked + ": weights", 17, () -> x.light(Kit.code("ab")));
                    Kit.due(marked + ": RULE", Kit.code("b"), () -> x.rule(0, true));
                    Kit.due(marked + ": FIELD", Kit.code("bb"), () -> x.field(0));
                    Kit.due(marked + ": SEEN", Kit.code("b"), () -> x.seen(0, true));
                    Kit.due(marked + ": MAKER", 0, () -> x.maker(0, 0, 0));
                    Kit.due(marked + ": SEED", 1, () -> x.seed(1));
                }
            }
        }
        for (String marked : LAW) {
            if (marked.indexOf('^') >= 0) {
                BeastRules x = Kit.of("rule a to b;field ab", "bar if place > 0");
                x.run(0, 1);
                Kit.feed(x, marked.replace("^", ""));
                Kit.answer(() -> x.law());
                Kit.due(marked + ": LINES", 1, () -> x.count(4));
                Kit.due(marked + ": acts", 1, () -> x.count(10));
                Kit.due(marked + ": barred as before", false, () -> x.fits(Kit.code("ba"), 0, 1));
                Kit.due(marked + ": not barred as before", true, () -> x.fits(Kit.code("aa"), 0, 0));
            }
        }
    }
}

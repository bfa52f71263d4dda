/** What the tests share: texts and MEADOWS in letters, and answers compared as strings. */
final class Kit {
    private static int wrong;
    private static int looked;

    private Kit() {
    }

    interface Call {
        Object go();
    }

    /** The answer of a call, or throws. and the name of what it threw. */
    static String answer(Call call) {
        try {
            return String.valueOf(call.go());
        } catch (RuntimeException thrown) {
            return "throws." + thrown.getClass().getSimpleName();
        }
    }

    static void due(String what, Object want, Call call) {
        looked++;
        String got = answer(call);
        if (!got.equals(String.valueOf(want))) {
            wrong++;
            System.out.println(what + " answered " + got + ", due is " + want);
        }
    }

    static void finish(String test) {
        System.out.println(test + ": " + looked + " answers looked at, " + wrong + " not as due");
        if (wrong != 0) {
            System.exit(1);
        }
    }

    static int wrongs() {
        return wrong;
    }

    static int looks() {
        return looked;
    }

    /** The CODE of letters; "" and "." have none. */
    static long code(String letters) {
        long code = 1;
        for (char letter : letters.toCharArray()) {
            if (letter != '.') {
                code = code * 8 + (letter - 'a');
            }
        }
        return code;
    }

    static String letters(long code) {
        StringBuilder letters = new StringBuilder();
        for (long rest = code; rest > 1; rest /= 8) {
            letters.insert(0, (char) ('a' + rest % 8));
        }
        return letters.toString();
    }

    static String repeat(String part, int many) {
        return part.repeat(many);
    }

    /** Feeds signs 0 to 255 to the TAPE of an object that has none, and cuts it to them. */
    static void feed(BeastRules x, String signs) {
        for (int at = 0; at < signs.length(); at += 20) {
            x.feed(four(signs, at), four(signs, at + 4), four(signs, at + 8), four(signs, at + 12), four(signs, at + 16));
        }
        x.end(signs.length());
    }

    static int four(String signs, int at) {
        int four = 0;
        for (int i = at; i < at + 4; i++) {
            four = four << 8 | (i < signs.length() ? signs.charAt(i) & 255 : 0);
        }
        return four;
    }

    static int valley(BeastRules x, String text) {
        feed(x, text);
        return x.valley();
    }

    static int law(BeastRules x, String text) {
        feed(x, text);
        return x.law();
    }

    /** All that can be seen of an object but the TAPE and fault(), by some hundred calls that change nothing. */
    static String state(BeastRules x) {
        StringBuilder state = new StringBuilder("counts");
        for (int what = 0; what <= 10; what++) {
            state.append(' ').append(x.count(what));
        }
        for (int i = 0; i < x.count(0); i++) {
            state.append("; rule ").append(letters(x.rule(i, false))).append(" to ").append(letters(x.rule(i, true)));
        }
        for (int i = 0; i < x.count(1); i++) {
            String beasts = letters(x.field(i));
            state.append("; field ").append(beasts).append(" behind ").append(x.steps(i));
            for (int place = 0; place < beasts.length(); place++) {
                state.append(' ').append(x.maker(i, place, 0)).append('/').append(x.maker(i, place, 1));
                for (int rule = 0; rule < x.count(0); rule++) {
                    state.append(x.fits(x.field(i), rule, place) ? " fits" : " -");
                }
            }
        }
        for (int i = 0; i < x.count(2); i++) {
            state.append("; seen ").append(letters(x.seen(i, false))).append(" to ").append(letters(x.seen(i, true)));
        }
        for (int beast = 0; beast < 8; beast++) {
            state.append(' ').append(x.light(8 + beast));
        }
        int seed = x.seed(0);
        x.seed(seed);
        return state.append("; seed ").append(seed).toString();
    }

    static BeastRules of(String text) {
        BeastRules x = new BeastRules();
        valley(x, text);
        return x;
    }

    static BeastRules of(String text, String law) {
        BeastRules x = of(text);
        law(x, law);
        return x;
    }
}

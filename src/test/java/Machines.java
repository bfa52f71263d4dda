/** RULES of which it is known how many STEPS they go, or to how many MEADOWS they come. */
final class Machines {
    /**
     * Counts a number of figures a (0) and b (1), with e behind it, down to 0: each b that is at the right end becomes a,
     * and c goes from it to the end and makes b of each a. From n it takes 3 n STEPS, less the number of b in n.
     */
    static final String COUNT_DOWN = "first right;rule b to ac;rule ca to bc;rule ce to e";

    /** The same, and nothing is left of the figures in the end, when f stands ahead of them. */
    static final String CLEARED = COUNT_DOWN + ";rule fa to f;rule fe to .;rule h to .;";

    /** Of 11 a: 1486 of a and b within 6 STEPS, c of the first four b within 5, 7 more of it within 6, and one for each RULE of c: 1500. */
    static final String MOST = "rule a to b;rule bbbb to c;rule c to d;rule c to e;rule c to f;rule c to g;rule c to h;rule c to .";

    /** Bars all but that; two LINES, numbered by RULE. */
    static final String MOST_LAW = "bar if rule < 1 and long < 11; bar if rule > 0 and rule < 2 and place > 0";

    /** One more than may be. */
    static final String TOO_MANY = MOST + ";rule c to dd";

    /**
     * Counts figures a (0) and b (1) ahead of ce up by one after another, with one RULE that fits at one PLACE at any time:
     * c goes left over the b, and d goes back to e. From 0 to n it takes 4 n STEPS, less twice the number of b in n.
     */
    static final String ROW = "rule bc to ca;rule ac to bd;rule da to ad;rule de to ce";

    private Machines() {
    }

    static String digits(int number) {
        return Integer.toBinaryString(number).replace('0', 'a').replace('1', 'b');
    }

    /** A MEADOW of ROW: a number, as so many figures. */
    static String row(int number, int figures) {
        String digits = digits(number);
        return "a".repeat(figures - digits.length()) + digits + "ce";
    }

    static BeastRules most() {
        return Kit.of(MOST, MOST_LAW);
    }

    static BeastRules tooMany() {
        return Kit.of(TOO_MANY, MOST_LAW);
    }
}

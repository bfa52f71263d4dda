import java.io.IOException;
import java.nio.file.Files;
import java.nio.file.Path;
import java.util.ArrayList;
import java.util.BitSet;
import java.util.List;

/** Tests of single sentences of the document: each says of which promise and which sentence it is. What its kinds share. */
abstract class Sentences {
    static final int NONE = -1;
    static final int MANY = -3;
    static final String INDEX = "throws.IndexOutOfBoundsException";
    static final String ARGUMENT = "throws.IllegalArgumentException";
    static final String STATE = "throws.IllegalStateException";
    static final String UNSUPPORTED = "throws.UnsupportedOperationException";
    static final String ELEMENT = "throws.NoSuchElementException";

    /** Numbers that are no CODE: below 1, figures that are no threes behind the 1, or more than 20 BEASTS. */
    static final long[] NO_CODES = {0, -1, 2, 3, 4, 7, 16, 17, 31, 32, 63, 128, 511, 1L << 58, 1L << 59, (1L << 60) - 1,
        1L << 61, 1L << 62, Long.MAX_VALUE, Long.MIN_VALUE, Long.MIN_VALUE + 8, -8, -9, -64, -72};

    /** Numbers that no RULE, FIELD, SEEN, PLACE or BEAST has, behind those that may be. */
    static final int[] FAR = {Integer.MIN_VALUE, Integer.MIN_VALUE + 1, -100, -1, 20, 32, 64, 1 << 30, Integer.MAX_VALUE - 1,
        Integer.MAX_VALUE};

    private static final int PROMISES = 45;

    /** Of the document that the sentences are of; that another one has others is told, but is no fault of the program. */
    private static final int KNOWN_DOCUMENT = 692028031;

    private static final List<Integer> promises = new ArrayList<>();
    private static final List<String> sentences = new ArrayList<>();
    private static String here = "";

    interface Body {
        void go();
    }

    /** Runs a test of one sentence. */
    static void test(int promise, String sentence, Body body) {
        promises.add(promise);
        sentences.add(sentence);
        here = "promise " + promise + ", \"" + sentence + "\": ";
        int looked = Kit.looks();
        try {
            body.go();
        } catch (RuntimeException thrown) {
            Kit.due(here + "the test itself", "goes on", () -> thrown.toString());
        }
        boolean some = Kit.looks() > looked;
        Kit.due(here + "looks at an answer", true, () -> some);
    }

    static void due(String what, Object want, Kit.Call call) {
        Kit.due(here + what, want, call);
    }

    /** A call that is refused, and behind which all but the TAPE and fault() is as it was. */
    static void refused(BeastRules x, String what, String want, Kit.Call call) {
        String was = Kit.state(x);
        due(what, want, call);
        due(what + " changed nothing", was, () -> Kit.state(x));
    }

    static long c(String letters) {
        return Kit.code(letters);
    }

    static String a(int many) {
        return "a".repeat(many);
    }

    // ---- that the sentences are the document's, and that none of them is without a test

    static void lookAtDocument() {
        for (int i = 1; i <= PROMISES; i++) {
            int promise = i;
            Kit.due("tests of promise " + promise, true, () -> promises.contains(promise));
        }
        Path file = Path.of("../shared/DOC.md");
        try {
            String document = Files.readString(file);
            List<String> unlike = unlike(plain(document));
            if (document.hashCode() == KNOWN_DOCUMENT) {
                Kit.due("unlike the document", "[]", () -> unlike);
            } else {
                System.out.println("another document than these tests are of: " + unlike);
            }
        } catch (IOException thrown) {
            System.out.println("no document to compare the tests to: " + thrown);
        }
    }

    /** Sentences that do not stand in the document, and words from Terms on that stand in none of them. */
    private static List<String> unlike(String document) {
        List<String> unlike = new ArrayList<>();
        BitSet told = new BitSet();
        for (String sentence : sentences) {
            int at = document.indexOf(sentence);
            if (at < 0) {
                unlike.add(sentence);
            }
            for (; at >= 0; at = document.indexOf(sentence, at + 1)) {
                told.set(at, at + sentence.length());
            }
        }
        int end = document.indexOf("## Not promised");
        for (int at = Math.max(0, document.indexOf("## Terms")); at < end; at++) {
            if (document.startsWith("## ", at)) {
                at = document.indexOf('\n', at);
            } else if (!told.get(at) && Character.isLetterOrDigit(document.charAt(at))) {
                int stop = Math.min(told.nextSetBit(at) < 0 ? end : told.nextSetBit(at), document.indexOf('\n', at));
                unlike.add(document.substring(at, stop));
                at = stop - 1;
            }
        }
        return unlike;
    }

    /** Headings on lines of their own; all else in one line, without fences. */
    private static String plain(String document) {
        StringBuilder plain = new StringBuilder();
        for (String line : document.split("\n")) {
            if (line.startsWith("## ")) {
                plain.append('\n').append(line).append('\n');
            } else if (!line.startsWith("```") && !line.isBlank()) {
                plain.append(line.trim()).append(' ');
            }
        }
        return plain.toString().replaceAll(" +", " ");
    }
}

import java.io.IOException;
import java.nio.file.Files;
import java.nio.file.Path;
import java.util.List;
import java.util.regex.Matcher;
import java.util.regex.Pattern;

/** Those rules of LANGUAGE.md that the text of the program shows. */
public final class LanguageTest {
    private static final String[] BANNED = {
        "->", "::", "\\bsynchronized\\b", "\\bassert\\b", "\\bfinally\\b", "\\btry\\b", "\\bcatch\\b", "\\bstatic\\s*\\{",
        "\\w+Exact\\(", "\\bdouble\\b", "\\bfloat\\b", "\\bpackage\\b", "\\bprotected\\b", "\\bvar\\b", "\\bObject\\b",
        "\\bequals\\b", "\\bhashCode\\b", "\\btoString\\b", "\\bSystem\\.(?!arraycopy)", "\\bArrays\\.(?!fill|copyOf)",
        "\\bString\\.", "\\bInteger\\.(?!bitCount)", "\\bLong\\.", "\\bMath\\.(?!min|max)", "\\bthrow (?!new )", "\\binstanceof\\b",
        "\\brecord\\b", "@", "\\bdefault\\s*->", "\\bThread\\b", "\\bRandom\\b", "while \\(true\\)", "for \\(;", "[^\\x00-\\x7f]",
    };

    public static void main(String[] args) throws IOException {
        String all = Files.readString(Path.of("src/main/java/BeastRules.java"));
        String code = all.replaceAll("(?s)/\\*.*?\\*/", "").replaceAll("//[^\n]*", "");
        for (String banned : BANNED) {
            Matcher found = Pattern.compile(banned).matcher(code);
            Kit.due(banned, "nothing", () -> found.find() ? found.group() : "nothing");
        }
        List<String> imports = code.lines().filter(line -> line.startsWith("import ")).toList();
        Kit.due("imports", "[import java.util.Arrays;, import java.util.NoSuchElementException;]", () -> imports);
        Kit.due("classes", true, () -> code.split("\\bclass \\w+").length - 1 <= 12);
        methods(code);
        Kit.finish("LanguageTest");
    }

    private static void methods(String code) {
        Matcher head = Pattern.compile("\n( +)[\\w\\[\\] ]*?(\\w+)\\(([\\w\\[\\], \n]*)\\)( throws [\\w, ]+)? \\{\n").matcher(code);
        int many = 0;
        while (head.find()) {
            String name = head.group(2);
            if (List.of("if", "for", "while", "switch").contains(name)) {
                continue;
            }
            many++;
            int end = code.indexOf("\n" + head.group(1) + "}", head.end());
            long lines = code.substring(head.start(), end).lines().count();
            int parameters = head.group(3).isBlank() ? 0 : head.group(3).split(",").length;
            Kit.due("lines of " + name, true, () -> lines <= 60);
            Kit.due("parameters of " + name, true, () -> parameters <= 7);
        }
        int found = many;
        Kit.due("methods found", true, () -> found > 100);
    }
}

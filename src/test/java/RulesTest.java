import java.io.IOException;
import java.nio.file.Files;
import java.nio.file.Path;
import java.util.regex.Matcher;
import java.util.regex.Pattern;

/** Those rules of LANGUAGE.md that can be read off the text of the class. */
public final class RulesTest {
    private static final Path SOURCE = Path.of("src/main/java/SenseNet.java");
    private static final int LONGEST_METHOD = 60;

    public static void main(String[] args) throws IOException {
        String text = Files.readString(SOURCE);
        String code = text.replaceAll("(?s)/\\*.*?\\*/", "").replaceAll("//[^\n]*", "").replaceAll("\"[^\"\n]*\"", "\"\"");
        none(code, "an import", "\\bimport\\b");
        none(code, "a package", "\\bpackage\\b");
        none(code, "a word that the rules leave out", "\\b(synchronized|assert|finally|lambda|volatile|native|protected)\\b");
        none(code, "a catch", "\\bcatch\\b");
        none(code, "a lambda or a method reference", "->|::");
        none(code, "an exact function", "Exact\\b");
        none(code, "the system", "\\b(System|Thread|Runtime|Random|Process)\\b");
        none(code, "a double or float", "\\b(double|float)\\b");
        none(code, "a cast", "\\((int|long|short|byte|char|[A-Z]\\w*)\\) *[\\w(]");
        none(code, "static state", "\\bstatic (?!final\\b)[\\w\\[\\]]+ \\w+ *[;=]");
        none(code, "a sign outside 1 to 127", "[^\\x01-\\x7f]");
        only(code, "an array's index outside at and put", "\\w\\[[^\\]]+\\]", "t\\[MOST_[^\\]]*\\]|w\\[index\\]");
        only(code, "a division", "\\w+ [/%]=? \\w+", "dividend / divisor");
        only(code, "a new object", "(throw )?new \\w+", "throw new (IllegalState|IllegalArgument|IndexOutOfBounds)Exception"
                + "|new (Net|Words|Chooser|int)");
        newOnlyInConstructors(code);
        methodsAreShort(code);
        Due.end();
    }

    private static void none(String code, String what, String pattern) {
        only(code, what, pattern, "");
    }

    private static void only(String code, String what, String pattern, String allowed) {
        Matcher found = Pattern.compile(pattern).matcher(code);
        while (found.find()) {
            Due.compare(what + ": " + found.group(), String.valueOf(found.group().matches(allowed)), "true");
        }
    }

    /** What is made outside a constructor is made again by every call. */
    private static void newOnlyInConstructors(String code) {
        String header = "";
        for (String line : code.split("\n")) {
            if (line.matches("    (    )?\\S.*\\) (throws .*)?\\{")) {
                header = line.strip();
            }
            if (line.matches(".*(?<!throw )\\bnew \\w.*")) {
                String made = "made in '" + header + "': " + line.strip();
                Due.compare(made, String.valueOf(header.matches("(public )?(SenseNet|Net|Words|Chooser)\\(\\) \\{")), "true");
            }
        }
    }

    private static void methodsAreShort(String code) {
        Matcher method = Pattern.compile("(?m)^( {4}| {8})\\S[^;{}]*\\)[^;{}]*\\{\n(?s:.*?)^\\1\\}").matcher(code);
        int seen = 0;
        while (method.find()) {
            seen++;
            int lines = method.group().split("\n").length;
            String name = method.group().strip().split("\n")[0];
            Due.compare(name + " is short", String.valueOf(lines <= LONGEST_METHOD), "true");
        }
        Due.compare("more than 60 methods are seen", String.valueOf(seen > 60), "true");
    }
}

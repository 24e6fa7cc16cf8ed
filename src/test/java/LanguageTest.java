import java.io.IOException;
import java.nio.file.Files;
import java.nio.file.Path;
import java.util.regex.Matcher;
import java.util.regex.Pattern;

/** The rules of LANGUAGE.md that a look at the source can tell; the source's path is the argument. */
public final class LanguageTest {
    private static final Checks CHECKS = new Checks();
    private static final String[] FORBIDDEN = {
        "\\bthrow\\b", "\\bthrows\\b", "\\btry\\b", "\\bcatch\\b", "\\bsynchronized\\b", "\\bassert\\b", "\\bpackage\\b",
        "->\\s*[{a-z(]", "::", "Exact\\b", "\\bObject\\b", "\\bThread\\b", "\\bSystem\\.(?!arraycopy)", "\\bRandom\\b",
        "\\bString\\.", "\\bString\\[\\]", "\\bMap\\b", "\\bSet\\b", "\\bprotected\\b", "\\bvolatile\\b", "\\bnative\\b",
        "\\bstatic \\{", "\\.hashCode", "\\.toString", "\\bdouble\\b", "\\bfloat\\b", "while \\(true\\)", "for \\(;;\\)",
        "\\bArrays\\.(?!fill|copyOf|copyOfRange)", "\\bMath\\.(?!max|min|abs)", "\\bInteger\\.(?!bitCount|compare)",
        "\\bnew \\w+(<[^>]*>)?\\([^)]*\\) \\{", "[^\\x00-\\x7f]"
    };

    public static void main(String[] args) throws IOException {
        String source = Files.readString(Path.of(args.length > 0 ? args[0] : "src/main/java/SolverHouse.java"));
        String code = withoutTexts(source);
        for (String form : FORBIDDEN) {
            Matcher found = Pattern.compile(form).matcher(code);
            boolean any = found.find();
            CHECKS.due(form + (any ? " stands at " + lineOf(code, found.start()) : ""), any ? 1 : 0, 0);
        }
        CHECKS.due("joined texts", Pattern.compile("\"\\s*\\+|\\+\\s*\"").matcher(source).find() ? 1 : 0, 0);
        imports(code);
        methods(code);
        CHECKS.due("at most twelve classes", Math.max(12, count(code, "\\bclass \\w+ \\{")), 12);
        CHECKS.end();
    }

    /** Without remarks, and with texts and characters emptied, line for line. */
    private static String withoutTexts(String source) {
        String bare = Pattern.compile("/\\*.*?\\*/", Pattern.DOTALL).matcher(source)
            .replaceAll(m -> m.group().replaceAll("[^\n]", ""));
        return bare.replaceAll("//[^\n]*", "").replaceAll("\"[^\"\n]*\"", "\"\"").replaceAll("'[^'\n]*'", "0");
    }

    private static int lineOf(String code, int at) {
        return code.substring(0, at).split("\n", -1).length;
    }

    private static int count(String code, String form) {
        return (int) Pattern.compile(form).matcher(code).results().count();
    }

    private static void imports(String code) {
        for (String line : code.split("\n")) {
            if (line.startsWith("import ")) {
                CHECKS.due(line, line.equals("import java.util.Arrays;") ? 1 : 0, 1);
            }
        }
    }

    private static void methods(String code) {
        Matcher heads = Pattern.compile("\n( +)(?:[a-z]+ )*[\\w\\[\\]]+ \\w+\\(([^)]*)\\) \\{\n").matcher(code);
        int methods = 0;
        while (heads.find()) {
            String head = heads.group().trim();
            if (head.matches("(if|for|while|switch|else|return|new)\\b.*")) {
                continue;
            }
            methods++;
            int params = heads.group(2).isEmpty() ? 0 : heads.group(2).split(",").length;
            CHECKS.due(head + " takes at most seven", Math.max(7, params), 7);
            int end = code.indexOf("\n" + heads.group(1) + "}\n", heads.start());
            int lines = lineOf(code, end) - lineOf(code, heads.start());
            CHECKS.due(head + " has at most sixty lines", Math.max(60, lines), 60);
        }
        CHECKS.due("methods were found", methods > 100 ? 1 : 0, 1);
    }
}

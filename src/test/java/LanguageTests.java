import java.nio.file.Files;
import java.nio.file.Path;
import java.util.ArrayList;
import java.util.List;
import java.util.regex.Matcher;
import java.util.regex.Pattern;

/** What can be seen from the text of the program of the rules in ../shared/LANGUAGE.md. */
public final class LanguageTests {
    private static final String[] FORBIDDEN = {
        "\\bimport\\b", "\\bpackage\\b", "->", "::", "\\btry\\b", "\\bcatch\\b", "\\bfinally\\b", "\\bassert\\b",
        "\\bsynchronized\\b", "\\bThread\\b", "\\bequals\\b", "\\bhashCode\\b", "\\btoString\\b", "\\w+Exact\\b",
        "\\bRandom\\b", "\\bcurrentTimeMillis\\b", "\\bnanoTime\\b", "\\bMath\\.random\\b", "\\bjava\\.", "\\bvar\\b",
        "\\bprotected\\b", "\\bnative\\b", "\\bstatic \\{", "\\bextends Exception\\b",
    };
    private static final Pattern HEAD = Pattern.compile("^( {4}| {8})((?:public|private|static|final) )*"
            + "(?:[A-Za-z]+(?:\\[\\])? )?[A-Za-z]+\\((.*)\\)(?: throws \\w+)? \\{$");

    private LanguageTests() {
    }

    public static void main(String[] args) throws Exception {
        List<String> lines = Files.readAllLines(Path.of("src/main/java/WhoKnows.java"));
        String code = withoutComments(lines);
        for (String forbidden : FORBIDDEN) {
            Matcher matcher = Pattern.compile(forbidden).matcher(code);
            Check.same("use of " + forbidden, matcher.find() ? matcher.group() : "", "");
        }
        for (char letter : code.toCharArray()) {
            if (letter > 126) {
                Check.same("sign", (int) letter, 0);
            }
        }
        thrown(code);
        methods(lines);
        int classes = 0;
        for (Matcher matcher = Pattern.compile("\\bclass \\w+").matcher(code); matcher.find();) {
            classes++;
        }
        Check.same("at most twelve classes", classes <= 12, true);
        Check.end("LanguageTests");
    }

    private static String withoutComments(List<String> lines) {
        StringBuilder text = new StringBuilder();
        for (String line : lines) {
            text.append(line.replaceAll("/\\*\\*.*", "").replaceAll("^ *\\*.*", "").replaceAll("//.*", "")).append('\n');
        }
        return text.toString();
    }

    private static void thrown(String code) {
        Matcher matcher = Pattern.compile("throw new (\\w+)").matcher(code);
        while (matcher.find()) {
            Check.same("throws " + matcher.group(1), matcher.group(1).matches(
                    "IllegalStateException|IllegalArgumentException|IndexOutOfBoundsException"), true);
        }
    }

    private static void methods(List<String> lines) {
        List<String> found = new ArrayList<>();
        for (int line = 0; line < lines.size(); line++) {
            Matcher matcher = HEAD.matcher(lines.get(line));
            if (!matcher.matches()) {
                continue;
            }
            found.add(lines.get(line));
            int end = line;
            while (!lines.get(end).equals(matcher.group(1) + "}")) {
                end++;
            }
            Check.same("short: " + lines.get(line), end - line <= 60, true);
            Check.same("parameters: " + lines.get(line), matcher.group(3).split(",").length <= 7, true);
        }
        Check.same("methods were found", found.size() > 100, true);
    }
}

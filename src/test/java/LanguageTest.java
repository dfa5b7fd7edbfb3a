import java.io.IOException;
import java.nio.file.Files;
import java.nio.file.Path;
import java.util.regex.Matcher;
import java.util.regex.Pattern;

/** What of LANGUAGE.md can be seen in the text of the class; it runs where the project's folder is the current one. */
public final class LanguageTest {
    private static final String[] NOT_THERE = {
        "\\bthrow\\b", "\\btry\\b", "\\bcatch\\b", "\\bsynchronized\\b", "\\bassert\\b", "\\bimport\\b", "\\bpackage\\b",
        "\\bprotected\\b", "->", "::", "\\bnative\\b", "\\bvolatile\\b", "\\w+Exact\\b", "\\bObject\\b", "\\bThread\\b",
        "\\bSystem\\.(?!arraycopy\\b)", "\\bequals\\b", "\\bhashCode\\b", "\\btoString\\b", "\\brandom\\b", "(MAX|MIN)_VALUE",
        "\\bvar\\b", "\\bchar\\[\\]\\[\\]", "\\w\\[\\]\\[\\]\\[\\]", "while \\(true\\)", "for \\(;;\\)"};
    private static final Pattern METHOD = Pattern.compile("(?m)^ {4,8}[\\w\\[\\] ]+?\\b(\\w+)\\(([^()]*)\\) \\{$");
    private static final Check check = new Check();

    public static void main(String[] args) throws IOException {
        String text = Files.readString(Path.of("src/main/java/TouchLeague.java"));
        check.holds("signs are those of ASCII", text.chars().allMatch(c -> c < 128));
        String code = text.replaceAll("(?s)/\\*.*?\\*/", "").replaceAll("//[^\n]*", "").replaceAll("\"[^\"\n]*\"", "\"\"");
        for (String word : NOT_THERE) {
            Matcher found = Pattern.compile(word).matcher(code);
            check.holds("no " + word, !found.find());
        }
        check.holds("static fields are final", !Pattern.compile("\\bstatic (?!final|boolean \\w+\\(|int \\w+\\()").matcher(code).find());
        methods(text);
        int classes = code.split("\\bclass\\b", -1).length - 1;
        check.holds("twelve classes at most, there are " + classes, classes <= 12);
        check.finish();
    }

    private static void methods(String text) {
        Matcher method = METHOD.matcher(text);
        int seen = 0;
        while (method.find()) {
            seen++;
            int indent = method.group().length() - method.group().stripLeading().length();
            int end = text.indexOf("\n" + " ".repeat(indent) + "}\n", method.end());
            long lines = text.substring(method.start(), end).lines().count() + 1;
            check.holds(method.group(1) + " is short: " + lines, lines <= 60);
            int parameters = method.group(2).isBlank() ? 0 : method.group(2).split(",").length;
            check.holds(method.group(1) + " takes seven at most", parameters <= 7);
        }
        check.holds("methods were seen: " + seen, seen > 100);
    }
}

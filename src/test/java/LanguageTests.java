import java.io.IOException;
import java.nio.file.Files;
import java.nio.file.Path;
import java.util.List;
import java.util.regex.Matcher;
import java.util.regex.Pattern;

/** Looks for what the language rules leave out, as far as lines of text can tell it. */
public final class LanguageTests {
    private static final int LONGEST_METHOD = 60;
    private static final int MOST_CLASSES = 12;
    private static final int MOST_PARAMETERS = 7;
    private static final List<String> LEFT_OUT = List.of("->", "::", "\\btry\\b", "\\bcatch\\b", "\\bfinally\\b",
            "\\bsynchronized\\b", "\\bassert\\b", "\\bprotected\\b", "\\bpackage\\b", "\\bStream\\b", "\\bSystem\\.(?!arraycopy)",
            "\\bMath\\.(?!max|min|abs)", "\\bequals\\(", "\\bhashCode\\(", "\\btoString\\(", "Exception\\(\\)?[^\")]*\\+",
            "\\bwhile\\b", "\\bextends\\b", "Integer\\.", "[^\\x00-\\x7f]");
    private static final Pattern METHOD = Pattern.compile("^ {4,8}[a-z][\\w\\[\\]<> ]* \\w+\\(([^)]*)\\).*$");

    private static int wrong = 0;

    public static void main(String[] args) throws IOException {
        List<String> lines = Files.readAllLines(Path.of(args[0]));
        int classes = 0;
        for (int i = 0; i < lines.size(); i++) {
            String line = lines.get(i);
            String code = line.replaceAll("//.*|^\\s*/?\\*.*", "");
            for (String leftOut : LEFT_OUT) {
                due(!Pattern.compile(leftOut).matcher(code).find(), i, "has " + leftOut);
            }
            due(!code.startsWith("import ") || code.matches("import java\\.util\\.(ArrayList|Arrays|NoSuchElementException);"),
                    i, "imports");
            classes += code.matches(".*\\b(class|enum|record|interface) [A-Z]\\w* .*\\{") ? 1 : 0;
            lookAtMethod(lines, i);
        }
        due(classes <= MOST_CLASSES, 0, classes + " classes");
        if (wrong > 0) {
            System.exit(1);
        }
        System.out.println("nothing left out by the language is found");
    }

    private static void lookAtMethod(List<String> lines, int at) {
        Matcher method = METHOD.matcher(lines.get(at));
        if (!method.matches() || lines.get(at).endsWith(";") || lines.get(at).contains(" class ")) {
            return;
        }
        due(method.group(1).split(",").length <= MOST_PARAMETERS, at, "too many parameters");
        String end = lines.get(at).replaceAll("\\S.*", "") + "}";
        int last = at;
        while (last < lines.size() && !lines.get(last).equals(end)) {
            last++;
        }
        due(last - at < LONGEST_METHOD, at, "a method of " + (last - at + 1) + " lines");
    }

    private static void due(boolean is, int line, String what) {
        if (!is) {
            wrong++;
            System.out.println("line " + (line + 1) + ": " + what);
        }
    }
}

import java.io.IOException;
import java.nio.file.DirectoryStream;
import java.nio.file.Files;
import java.nio.file.Path;
import java.util.ArrayList;
import java.util.HashMap;
import java.util.List;
import java.util.Map;
import java.util.TreeMap;
import java.util.regex.Pattern;

/**
 * Runs the scripts of folders. A script holds headings ("== Promise 2: rank"), sentences of the document that the
 * checks below them are about ("-- At most 10 ranks"), comments ("# .."), kept rows of calls ("define NAME" ..
 * "end"), new objects ("new", or "new NAME" with the calls of that row), and calls with what is due:
 * <ul>
 * <li>"isDown(0, 3) = false" is answered;</li>
 * <li>"stop(3) ! IndexOutOfBoundsException" is refused, and changes nothing;</li>
 * <li>"still hunt(0) = 1" is answered, and changes nothing;</li>
 * <li>"range 0..2 stop(*) ! IndexOutOfBoundsException" is answered with both ends of the range in the place of *,
 * and refused with the numbers beside them and with the outermost ones of all, each on an organ as it is here;</li>
 * <li>"each 0..59 cross(3, #, #+1) = #+2" is one call for each number, which stands for the #.</li>
 * </ul>
 * All answers but those of isTrue are asked of the plain organ, too.
 */
public final class PromiseTests {
    private static final Pattern NUMBER = Pattern.compile("#(?:\\*(\\d+))?(?:\\+(\\d+))?");

    private final Document document;
    private final Map<String, List<String>> rows = new HashMap<>();
    private final Map<Integer, Integer> checks = new TreeMap<>();
    private final List<Call> before = new ArrayList<>();
    private final List<Call> refused = new ArrayList<>();
    private Rankhall organ;
    private PlainOrgan plain;
    private int promise;
    private String sentence = "";
    private int checksOfSentence = 1;
    private String where = "";
    private int wrong;

    private PromiseTests() throws IOException {
        document = new Document(Path.of("../shared/DOC.md"));
    }

    public static void main(String[] args) throws IOException {
        PromiseTests tests = new PromiseTests();
        for (String folder : args) {
            List<Path> scripts = new ArrayList<>();
            try (DirectoryStream<Path> found = Files.newDirectoryStream(Path.of(folder), "*.txt")) {
                found.forEach(scripts::add);
            }
            scripts.sort(null);
            for (Path script : scripts) {
                tests.runScript(script);
            }
        }
        tests.findUntested();
        if (tests.wrong > 0) {
            System.out.println(tests.wrong + " checks of promises fail");
            System.exit(1);
        }
        int all = tests.checks.values().stream().mapToInt(Integer::intValue).sum();
        System.out.println("all " + all + " checks of promises hold");
    }

    private void runScript(Path script) throws IOException {
        List<String> lines = Files.readAllLines(script);
        for (int i = 0; i < lines.size(); i++) {
            String line = lines.get(i).trim();
            where = script.getFileName() + ":" + (i + 1);
            if (line.startsWith("define ")) {
                List<String> row = new ArrayList<>();
                for (i++; !lines.get(i).trim().equals("end"); i++) {
                    row.add(lines.get(i).trim());
                }
                rows.put(line.substring(7), row);
            } else {
                runLine(line);
            }
        }
        endOrgan();
        endSentence();
    }

    private void runLine(String line) {
        if (line.isEmpty() || line.startsWith("#")) {
            return;
        }
        if (line.startsWith("== Promise ")) {
            endSentence();
            promise = Integer.parseInt(line.substring(11, line.indexOf(':')));
        } else if (line.startsWith("-- ")) {
            endSentence();
            beginSentence(line.substring(3));
        } else if (line.equals("new")) {
            beginOrgan(List.of());
        } else if (line.startsWith("new ")) {
            beginOrgan(rows.get(line.substring(4)));
        } else if (line.startsWith("range ")) {
            checkRange(line.substring(6));
        } else if (line.startsWith("each ")) {
            runEach(line.substring(5));
        } else if (line.startsWith("still ")) {
            String call = line.substring(6, line.lastIndexOf(')') + 1);
            dueUnchanged(List.of(new Call(call)));
            check(line.substring(6));
        } else {
            check(line);
        }
    }

    private void beginSentence(String quoted) {
        sentence = quoted;
        checksOfSentence = 0;
        due(document.quote(promise, quoted), "the document does not say: " + quoted);
    }

    private void endSentence() {
        endRefused();
        due(checksOfSentence > 0, "nothing is checked of: " + sentence);
        sentence = "";
        checksOfSentence = 1;
    }

    private void beginOrgan(List<String> row) {
        endOrgan();
        organ = new Rankhall();
        plain = new PlainOrgan();
        row.forEach(this::runLine);
    }

    private void endOrgan() {
        endRefused();
        before.clear();
    }

    private void check(String line) {
        int close = line.lastIndexOf(')');
        String due = line.substring(close + 1).trim();
        Call call = new Call(line.substring(0, close + 1));
        if (due.startsWith("!")) {
            refused.add(call);
        } else {
            endRefused();
            before.add(call);
        }
        dueAnswer(call, call.answerOf(organ), due);
        if (!call.name.equals("isTrue")) {
            dueAnswer(call, call.answerOf(plain) + " by the plain organ", due + " by the plain organ");
        }
        countCheck();
    }

    /** Both ends of a range that stands at the head of a line. */
    private static int[] rangeOf(String line) {
        int dots = line.indexOf("..");
        int end = line.indexOf(' ');
        return new int[] {Integer.parseInt(line.substring(0, dots)), Integer.parseInt(line.substring(dots + 2, end))};
    }

    private void runEach(String line) {
        String each = line.substring(line.indexOf(' ') + 1);
        int[] range = rangeOf(line);
        for (int i = range[0]; i <= range[1]; i++) {
            int number = i;
            runLine(NUMBER.matcher(each).replaceAll(found -> String.valueOf(
                    number * (found.group(1) == null ? 1 : Integer.parseInt(found.group(1)))
                            + (found.group(2) == null ? 0 : Integer.parseInt(found.group(2))))));
        }
    }

    private void checkRange(String line) {
        endRefused();
        int close = line.lastIndexOf(')');
        int[] range = rangeOf(line);
        String text = line.substring(line.indexOf(' ') + 1, close + 1);
        for (int inside : range) {
            Call asked = new Call(text.replace("*", String.valueOf(inside)));
            String got = asked.answerOf(Call.organBehind(before));
            due(got.startsWith("="), asked.text + " " + got + ", due is an answer");
            dueAnswer(asked, got, asked.answerOf(Call.plainOrganBehind(before)));
            countCheck();
        }
        List<Call> outside = new ArrayList<>();
        for (int number : new int[] {range[0] - 1, range[1] + 1, Integer.MIN_VALUE, Integer.MAX_VALUE}) {
            Call asked = new Call(text.replace("*", String.valueOf(number)));
            dueAnswer(asked, asked.answerOf(Call.organBehind(before)), line.substring(close + 1).trim());
            dueAnswer(asked, asked.answerOf(Call.plainOrganBehind(before)), line.substring(close + 1).trim());
            outside.add(asked);
            countCheck();
        }
        dueUnchanged(outside);
    }

    /** Calls that are refused one behind the other are looked at together. */
    private void endRefused() {
        if (!refused.isEmpty()) {
            dueUnchanged(refused);
            refused.clear();
        }
    }

    private void dueUnchanged(List<Call> calls) {
        String fault = Unchanged.fault(before, calls);
        due(fault == null, fault);
    }

    private void dueAnswer(Call call, String got, String due) {
        due(due.equals(got), call.text + " " + got + ", due is " + due);
    }

    private void due(boolean is, String what) {
        if (!is) {
            wrong++;
            System.out.println(where + ": promise " + promise + ": " + sentence + "\n    " + what);
        }
    }

    private void countCheck() {
        checks.merge(promise, 1, Integer::sum);
        checksOfSentence++;
    }

    private void findUntested() {
        where = "at the end";
        for (int i = 1; i <= Document.PROMISES; i++) {
            due(checks.containsKey(i), "promise " + i + " has no check");
        }
        for (String missing : document.unquoted()) {
            due(false, missing);
        }
    }
}

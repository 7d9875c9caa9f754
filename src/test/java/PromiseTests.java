import java.io.IOException;
import java.lang.reflect.InvocationTargetException;
import java.lang.reflect.Method;
import java.nio.file.DirectoryStream;
import java.nio.file.Files;
import java.nio.file.Path;
import java.util.ArrayList;
import java.util.HashMap;
import java.util.List;
import java.util.Map;
import java.util.TreeMap;

/**
 * Runs the scripts of a folder. A script holds headings ("== Promise 2: rank"), comments ("# .."),
 * kept rows of calls ("define NAME" .. "end"), new objects ("new", or "new NAME" with the calls of that row),
 * and calls with what is due: "isDown(0, 3) = false", "stop(3) ! IndexOutOfBoundsException".
 */
public final class PromiseTests {
    private static final int PROMISES = 59;

    private final Map<String, Method> methods = new HashMap<>();
    private final Map<String, List<String>> rows = new HashMap<>();
    private final Map<Integer, Integer> checks = new TreeMap<>();
    private Rankhall organ;
    private int promise;
    private int wrong;

    private PromiseTests() {
        for (Method method : Rankhall.class.getDeclaredMethods()) {
            methods.put(method.getName(), method);
        }
    }

    public static void main(String[] args) throws IOException {
        PromiseTests tests = new PromiseTests();
        List<Path> scripts = new ArrayList<>();
        try (DirectoryStream<Path> found = Files.newDirectoryStream(Path.of(args[0]), "*.txt")) {
            found.forEach(scripts::add);
        }
        scripts.sort(null);
        for (Path script : scripts) {
            tests.runScript(script);
        }
        tests.findUntested();
        if (tests.wrong > 0) {
            System.out.println(tests.wrong + " checks of promises fail");
            System.exit(1);
        }
        int all = tests.checks.values().stream().mapToInt(Integer::intValue).sum();
        System.out.println("all " + all + " checks of promises hold");
    }

    private void runScript(Path script) throws IOException {
        List<String> lines = Files.readAllLines(script);
        for (int i = 0; i < lines.size(); i++) {
            String line = lines.get(i).trim();
            if (line.startsWith("define ")) {
                List<String> row = new ArrayList<>();
                for (i++; !lines.get(i).trim().equals("end"); i++) {
                    row.add(lines.get(i).trim());
                }
                rows.put(line.substring(7), row);
            } else {
                runLine(line, script.getFileName() + ":" + (i + 1));
            }
        }
    }

    private void runLine(String line, String where) {
        if (line.isEmpty() || line.startsWith("#")) {
            return;
        }
        if (line.startsWith("== Promise ")) {
            promise = Integer.parseInt(line.substring(11, line.indexOf(':')));
        } else if (line.equals("new")) {
            organ = new Rankhall();
        } else if (line.startsWith("new ")) {
            organ = new Rankhall();
            for (String kept : rows.get(line.substring(4))) {
                runLine(kept, where);
            }
        } else {
            check(line, where);
        }
    }

    private void check(String line, String where) {
        int close = line.lastIndexOf(')');
        String call = line.substring(0, close + 1);
        String due = line.substring(close + 1).trim();
        String got = answer(call);
        checks.merge(promise, 1, Integer::sum);
        if (!due.equals(got)) {
            wrong++;
            System.out.println(where + ": promise " + promise + ": " + call + " " + got + ", due is " + due);
        }
    }

    private String answer(String call) {
        String name = call.substring(0, call.indexOf('('));
        String inside = call.substring(call.indexOf('(') + 1, call.length() - 1).trim();
        Method method = methods.get(name);
        String[] texts = inside.isEmpty() ? new String[0] : inside.split("\\s*,\\s*");
        Object[] values = new Object[texts.length];
        for (int i = 0; i < texts.length; i++) {
            values[i] = value(texts[i], method.getParameterTypes()[i]);
        }
        try {
            return "= " + method.invoke(organ, values);
        } catch (InvocationTargetException e) {
            return told(e.getCause());
        } catch (IllegalAccessException e) {
            return "! no access";
        }
    }

    /** Exceptions must come from a throw of the program itself, not from the machine or its library. */
    static String told(Throwable thrown) {
        StackTraceElement[] trace = thrown.getStackTrace();
        boolean isOwn = trace.length > 0 && trace[0].getClassName().startsWith("Rankhall");
        boolean isMachines = !isOwn || "/ by zero".equals(thrown.getMessage());
        return "! " + thrown.getClass().getSimpleName() + (isMachines ? " by the machine" : "");
    }

    private static Object value(String text, Class<?> type) {
        if (type == boolean.class) {
            return Boolean.valueOf(text);
        }
        if (type == char.class) {
            return text.charAt(0);
        }
        return Integer.valueOf(text);
    }

    private void findUntested() {
        for (int i = 1; i <= PROMISES; i++) {
            if (!checks.containsKey(i)) {
                wrong++;
                System.out.println("promise " + i + " has no check");
            }
        }
    }
}

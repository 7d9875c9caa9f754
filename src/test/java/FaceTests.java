import java.io.IOException;
import java.lang.reflect.Constructor;
import java.lang.reflect.Field;
import java.lang.reflect.Method;
import java.lang.reflect.Modifier;
import java.nio.file.Files;
import java.nio.file.Path;
import java.util.ArrayList;
import java.util.Arrays;
import java.util.List;
import java.util.TreeSet;

/** The public face is the document's to the letter, and nothing beside it can be seen; dear runs stay quick. */
public final class FaceTests {
    private static int wrong = 0;

    public static void main(String[] args) throws IOException {
        compareFaces();
        findVisible();
        playLong();
        playFull();
        playMost();
        if (wrong > 0) {
            System.exit(1);
        }
        System.out.println("the face is the document's");
    }

    private static void due(boolean is, String what) {
        if (!is) {
            wrong++;
            System.out.println(what);
        }
    }

    private static void compareFaces() throws IOException {
        TreeSet<String> told = new TreeSet<>();
        for (String line : Files.readAllLines(Path.of("../shared/DOC.md"))) {
            if (line.startsWith("    public ")) {
                int close = line.indexOf(')');
                String named = line.substring(4, close + 1).replaceAll("(\\w+) \\w+([,)])", "$1$2");
                told.add(named + line.substring(close + 1).replace(";", ""));
            }
        }
        TreeSet<String> found = new TreeSet<>();
        for (Method method : Rankhall.class.getDeclaredMethods()) {
            if (Modifier.isPublic(method.getModifiers())) {
                found.add("public " + method.getReturnType().getSimpleName() + " " + method.getName()
                        + parts(method.getParameterTypes(), method.getExceptionTypes()));
            }
        }
        for (Constructor<?> constructor : Rankhall.class.getConstructors()) {
            found.add("public Rankhall" + parts(constructor.getParameterTypes(), constructor.getExceptionTypes()));
        }
        due(told.size() == 59, "the document tells " + told.size() + " members");
        due(told.equals(found), "told: " + told + "\nfound: " + found);
    }

    private static String parts(Class<?>[] parameters, Class<?>[] exceptions) {
        String inside = String.join(", ", Arrays.stream(parameters).map(Class::getSimpleName).toList());
        String thrown = String.join(", ", Arrays.stream(exceptions).map(Class::getSimpleName).toList());
        return "(" + inside + ")" + (thrown.isEmpty() ? "" : " throws " + thrown);
    }

    private static void findVisible() {
        List<String> names = new ArrayList<>();
        for (Method method : Rankhall.class.getDeclaredMethods()) {
            int modifiers = method.getModifiers();
            due(Modifier.isPublic(modifiers) || Modifier.isPrivate(modifiers), method + " can be seen");
            due(!Modifier.isStatic(modifiers) || Modifier.isPrivate(modifiers), method + " is static");
            if (Modifier.isPublic(modifiers)) {
                names.add(method.getName());
            }
        }
        for (Method method : Rankhall.class.getDeclaredMethods()) {
            boolean isPublic = Modifier.isPublic(method.getModifiers());
            due(isPublic || !names.contains(method.getName()), method + " bears a public name");
        }
        for (Field field : Rankhall.class.getDeclaredFields()) {
            due(Modifier.isPrivate(field.getModifiers()), field + " can be seen");
        }
        for (Class<?> inner : Rankhall.class.getDeclaredClasses()) {
            int modifiers = inner.getModifiers();
            due(Modifier.isStatic(modifiers) && !Modifier.isPublic(modifiers), inner + " can be seen");
            for (Method method : inner.getDeclaredMethods()) {
                due(!names.contains(method.getName()), method + " bears a public name");
            }
        }
    }

    /** The longest playing: a tape of many ticks that is played as often as the calls allow. */
    private static void playLong() {
        Rankhall organ = new Rankhall();
        for (int rank = 0; rank < 10; rank++) {
            organ.rank(0, 127, 9, rank % 3, 5, 5, 99);
        }
        for (int stop = 0; stop < 10; stop++) {
            int knob = organ.stop(1);
            for (int row = 0; row < 4; row++) {
                organ.row(knob, stop, 24 * row - 36, 0, 60);
            }
            organ.draw(knob, true);
        }
        organ.draw(organ.tremulant(1), true);
        organ.record('k');
        for (int i = 0; i < 200; i++) {
            organ.key(1, i % 61, i % 3 > 0);
            organ.pass(40);
        }
        int kept = organ.recorded();
        int before = organ.pass(1);
        organ.playBack();
        int span = organ.pass(1) - before - 1;
        due(span > 7000 && span < 8000, "a tape spans " + span + " ticks");
        for (int i = 0; i < 30; i++) {
            organ.playBack();
        }
        due(organ.recorded() == kept, "what was recorded has changed");
        due(organ.pass(1) == before + 31 * span + 2, "ticks do not pass as they were");
        due(organ.isTrue(), "it is not true");
    }

    /** The fullest tape: 610 pipes that come and go with each of many acts. */
    private static void playFull() {
        Rankhall organ = new Rankhall();
        for (int rank = 0; rank < 10; rank++) {
            organ.rank(0, 127, 1, rank % 3, 0, 0, 1);
            organ.row(organ.stop(1), rank, 0, 0, 60);
        }
        for (int division = 0; division < 3; division++) {
            organ.supply(division, 999);
        }
        for (int key = 0; key < 61; key++) {
            organ.key(1, key, true);
        }
        organ.record('r');
        for (int i = 0; i < 60; i++) {
            organ.tutti(i % 2 == 0);
        }
        due(organ.recorded() == 36600, organ.recorded() + " pipes were recorded");
        due(organ.ended() == 18300, organ.ended() + " pipes have ended");
        due(organ.playBack() == 18300, "not all pipes begin again");
        due(organ.begun(9, 96) == 60, "the last pipe has begun " + organ.begun(9, 96) + " times");
        due(organ.speaking() == 0 && organ.isTrue(), "it is not true behind the fullest tape");
    }

    /** As many calls as an object has, the most of them acts by which all 1280 pipes come to be wanted, or not any more. */
    private static void playMost() {
        Rankhall organ = new Rankhall();
        int calls = 0;
        for (int rank = 0; rank < 10; rank++) {
            organ.rank(0, 127, 1, rank % 3, 0, 0, 1);
            int knob = organ.stop(1);
            // the keys 0 to 35 play by the couplers: notes from 0, 36, 72 and 92 upwards
            for (int offset : new int[] {-36, 0, 36, 56}) {
                organ.row(knob, rank, offset, 0, 60);
            }
            calls += 6;
        }
        organ.draw(organ.coupler(1, 1, 12, 'a'), true);
        organ.draw(organ.coupler(1, 1, -12, 'a'), true);
        for (int division = 0; division < 3; division++) {
            organ.supply(division, 999);
        }
        for (int key = 12; key < 24; key++) {
            organ.key(1, key, true);
        }
        organ.record('r');
        calls += 20;
        int acts = 0;
        while (calls < 510) {
            organ.tutti(acts % 2 == 0);
            acts++;
            calls++;
        }
        due(organ.recorded() == 1280 * acts, organ.recorded() + " pipes were recorded by " + acts + " acts");
        int begun = organ.playBack();
        due(begun == 1280 * acts / 2, begun + " pipes began by the last call");
    }
}

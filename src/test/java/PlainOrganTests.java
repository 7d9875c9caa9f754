import java.lang.reflect.Method;
import java.util.ArrayList;
import java.util.Arrays;
import java.util.Comparator;
import java.util.List;
import java.util.Map;
import java.util.Random;
import java.util.Set;
import java.util.TreeMap;

/** Plays the same calls, chosen by fixed seeds, on the program and on the plain organ: all answers must agree. */
public final class PlainOrganTests {
    private static final int RUNS = 240;
    private static final int CALLS = 300;

    private final Random random;
    private final Rankhall organ = new Rankhall();
    private final PlainOrgan plain = new PlainOrgan();
    private final List<String> calls = new ArrayList<>();
    private final List<int[]> ranks = new ArrayList<>();
    private int knobs = 3;

    private PlainOrganTests(long seed) {
        random = new Random(seed);
    }

    private static final Map<String, Method> METHODS = Call.methodsOf(Rankhall.class);
    private static final Map<String, Method> PLAIN_METHODS = Call.methodsOf(PlainOrgan.class);
    private static final List<Method> ALL = METHODS.values().stream()
            .sorted(Comparator.comparing(Method::getName)).toList();
    private static final Map<String, Integer> ANSWERED = new TreeMap<>();

    public static void main(String[] args) {
        int wrong = 0;
        for (int seed = 0; seed < RUNS && wrong < 3; seed++) {
            String fault = new PlainOrganTests(seed).run(seed % 8 == 7);
            if (fault != null) {
                wrong++;
                System.out.println("seed " + seed + ": " + fault);
            }
        }
        for (Method method : ALL) {
            if (!ANSWERED.containsKey(method.getName())) {
                wrong++;
                System.out.println(method.getName() + " has never answered");
            }
        }
        if (wrong > 0) {
            System.exit(1);
        }
        System.out.println("all answers are those of the plain organ, in " + RUNS + " runs");
    }

    private String run(boolean isWild) {
        furnish();
        for (int i = 0; i < CALLS; i++) {
            Method method = ALL.get(random.nextInt(ALL.size()));
            if (random.nextInt(3) == 0) {
                List<String> often = List.of("key", "key", "key", "pass", "draw", "playBack", "realise", "push", "fault");
                method = METHODS.get(often.get(random.nextInt(often.size())));
            }
            Object[] values = isWild && random.nextBoolean() ? anything(method) : likely(method);
            String fault = compare(method.getName(), values);
            if (fault == null && i % 20 == 19) {
                fault = comparePipes();
            }
            if (fault != null) {
                return fault + " behind " + String.join("; ", calls);
            }
        }
        return null;
    }

    private void furnish() {
        int count = 1 + random.nextInt(4);
        for (int i = 0; i < count; i++) {
            compare("rank", new Object[] {random.nextInt(50), 60 + random.nextInt(68), 1 + random.nextInt(9),
                random.nextInt(3), random.nextInt(3) * random.nextInt(3), random.nextInt(4), 1 + random.nextInt(99)});
        }
        for (int i = 0; i < 2 * count; i++) {
            compare("stop", new Object[] {random.nextInt(3)});
            int rows = 1 + random.nextInt(3);
            for (int row = 0; row < rows; row++) {
                int from = random.nextInt(2) * random.nextInt(30);
                compare("row", new Object[] {knobs - 1, random.nextInt(count), random.nextInt(4) * 12 - 12,
                    from, from + random.nextInt(61 - from)});
            }
            compare("draw", new Object[] {knobs - 1, random.nextBoolean()});
        }
        for (int i = random.nextInt(5); i > 0; i--) {
            compare("coupler", likely(METHODS.get("coupler")));
            compare("draw", new Object[] {knobs - 1, true});
        }
    }

    private String compare(String name, Object[] values) {
        String due = Call.answer(PLAIN_METHODS.get(name), plain, values);
        String got = Call.answer(METHODS.get(name), organ, values);
        calls.add(name + Arrays.toString(values) + " " + due);
        if (!due.contains("Exception")) {
            ANSWERED.merge(name, 1, Integer::sum);
            if (name.equals("rank")) {
                ranks.add(new int[] {(Integer) values[0], (Integer) values[1]});
            } else if (Set.of("stop", "coupler", "tremulant").contains(name)) {
                knobs++;
            }
        }
        return due.equals(got) ? null : name + Arrays.toString(values) + " " + got + ", due is " + due;
    }

    private String comparePipes() {
        for (int rank = 0; rank < ranks.size(); rank++) {
            for (int note = ranks.get(rank)[0]; note <= ranks.get(rank)[1]; note++) {
                for (String name : List.of("reasons", "reasonsAnew", "isOpen", "speaks", "begun", "pitch")) {
                    String fault = compare(name, new Object[] {rank, note});
                    calls.remove(calls.size() - 1);
                    if (fault != null) {
                        return fault;
                    }
                }
            }
        }
        return null;
    }

    private Object[] anything(Method method) {
        Class<?>[] types = method.getParameterTypes();
        Object[] values = new Object[types.length];
        int[] odd = {-1, 0, 1, 2, 3, 7, 12, 31, 32, 40, 60, 61, 128, 300, 399, 400, 415, 416,
            Integer.MAX_VALUE, Integer.MIN_VALUE, Integer.MAX_VALUE - 36, -2147483000};
        for (int i = 0; i < types.length; i++) {
            values[i] = types[i] == boolean.class ? random.nextBoolean()
                    : types[i] == char.class ? (Object) "ambpcd-kr&|^!5647x".charAt(random.nextInt(18))
                    : (Object) odd[random.nextInt(odd.length)];
        }
        return values;
    }

    private int knob() {
        return random.nextInt(knobs + (random.nextInt(9) == 0 ? 1 : 0));
    }

    private Object[] pipe() {
        int rank = random.nextInt(ranks.size());
        int[] notes = ranks.get(rank);
        return new Object[] {rank, notes[0] + random.nextInt(notes[1] - notes[0] + 1)};
    }

    private char letter(String letters) {
        return letters.charAt(random.nextInt(letters.length()));
    }

    private int source(int relay) {
        switch (random.nextInt(6)) {
            case 0:
                return 100 + random.nextInt(8);
            case 1:
                return 200 + random.nextInt(12);
            case 2:
                return 300 + random.nextInt(12);
            case 3:
                return 400 + random.nextInt(relay + 1);
            default:
                return random.nextInt(knobs + 1);
        }
    }

    private Object[] likely(Method method) {
        Object[] pipe = pipe();
        Object[] other = pipe();
        int division = random.nextInt(3);
        int piston = random.nextInt(4);
        boolean is = random.nextInt(3) > 0;
        switch (method.getName()) {
            case "rank":
                return random.nextInt(8) > 0 ? new Object[] {5, 4, 1, 1, 1, 1, 1}
                        : new Object[] {40, 50, 1 + random.nextInt(9), division, piston, piston, 20};
            case "stop":
            case "tremulant":
                return new Object[] {random.nextInt(6) == 0 ? division : 3};
            case "wind":
                return new Object[] {division};
            case "row":
                return new Object[] {knob(), pipe[0], random.nextInt(4) * 12 - 12, random.nextInt(20), 60};
            case "cross":
                return new Object[] {knob(), random.nextInt(20), random.nextInt(20)};
            case "coupler":
                return new Object[] {division, random.nextInt(3), 12 * random.nextInt(3) - 12, letter("ambpx")};
            case "draw":
            case "lock":
            case "scope":
                return new Object[] {knob(), is};
            case "isDrawn":
            case "isOn":
                return new Object[] {knob()};
            case "stage":
                return new Object[] {knob(), random.nextInt(11)};
            case "crescendo":
                return new Object[] {random.nextInt(11)};
            case "tutti":
                return new Object[] {random.nextInt(4) == 0};
            case "key":
                return new Object[] {division, random.nextInt(25), is};
            case "isDown":
                return new Object[] {division, random.nextInt(33)};
            case "pass":
                return new Object[] {random.nextInt(7)};
            case "reasons":
            case "reasonsAnew":
            case "isOpen":
            case "speaks":
            case "begun":
            case "pitch":
                return pipe;
            case "supply":
                return new Object[] {division, random.nextInt(120)};
            case "box":
                return new Object[] {division, random.nextInt(12)};
            case "temper":
                return new Object[] {random.nextInt(12), random.nextInt(103) - 51};
            case "tune":
                return new Object[] {pipe[0], pipe[1], random.nextInt(103) - 51};
            case "tuneTo":
                return new Object[] {pipe[0], pipe[1], other[0], is ? pipe[1] : other[1]};
            case "heat":
                return new Object[] {random.nextInt(43) - 21, pipe[0], random.nextInt(21) - 10};
            case "fault":
                return new Object[] {pipe[0], pipe[1], letter("cd--")};
            case "hunt":
                return new Object[] {pipe[0]};
            case "guest":
            case "level":
                return new Object[] {random.nextInt(3) * random.nextInt(3)};
            case "claim":
                return new Object[] {!is};
            case "set":
            case "push":
                return new Object[] {division - random.nextInt(2), piston};
            case "setReversible":
                return new Object[] {piston, knob()};
            case "pushReversible":
                return new Object[] {piston};
            case "frame":
            case "cut":
            case "turnTo":
                return new Object[] {random.nextInt(4)};
            case "wire":
                int relay = random.nextInt(5);
                return new Object[] {relay, letter("&|^!"), source(relay), source(relay)};
            case "isOnRelay":
                return new Object[] {random.nextInt(5)};
            case "drive":
                return new Object[] {knob(), random.nextInt(6) - 1};
            case "record":
                return new Object[] {letter("kr-")};
            case "scale":
                return new Object[] {random.nextInt(12), is};
            case "realise":
                return new Object[] {random.nextInt(32), letter("5647")};
            default:
                return new Object[0];
        }
    }
}

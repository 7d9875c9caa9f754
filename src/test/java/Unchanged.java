import java.util.ArrayList;
import java.util.List;

/**
 * Finds out whether calls change nothing: of two organs behind the same calls one gets these calls, too, and
 * then both are asked all that can be asked, in many ways, and played on; no answer may differ.
 */
final class Unchanged {
    private static final int MOST_CALLS = 512;
    private static final int[] LOOKED_AT = {0, 1, 2, 3, 4, 5, 6, 7, 8, 9, 39};

    private static final Unchanged[] BY_RANKS = new Unchanged[11];

    private final List<List<Call>> probes = new ArrayList<>();
    private final List<Call> probe = new ArrayList<>();

    private Unchanged(int ranks) {
        probeKnobs();
        probeSettings();
        probeKeys();
        probeTime();
        for (int rank = 0; rank < ranks; rank++) {
            probePipes(rank);
        }
        probeRanks(ranks);
        probeStops();
        probeWays();
        probeRelays();
        for (int level = 0; level < 4; level++) {
            probeLevel(level);
            probeFrames(level);
        }
        probeStepsAndClaims();
        probeTape();
        probeContinuo();
    }

    private static Unchanged forRanks(int ranks) {
        if (BY_RANKS[ranks] == null) {
            BY_RANKS[ranks] = new Unchanged(ranks);
        }
        return BY_RANKS[ranks];
    }

    /** Returns what differs, or null. */
    static String fault(List<Call> before, List<Call> calls) {
        int ranks = (int) before.stream().filter(call -> call.name.equals("rank")).count();
        for (List<Call> probe : forRanks(Math.min(10, ranks + 1)).probes) {
            if (before.size() + calls.size() + probe.size() > MOST_CALLS) {
                throw new IllegalStateException("more calls than an organ has: " + probe.get(0).text);
            }
            Rankhall without = Call.organBehind(before);
            Rankhall with = Call.organBehind(before);
            calls.forEach(call -> call.answerOf(with));
            for (Call asked : probe) {
                String due = asked.answerOf(without);
                String got = asked.answerOf(with);
                if (!due.equals(got)) {
                    return calls.get(0).text + " and what follows it changes something: " + asked.text + " " + got
                            + ", without " + due;
                }
            }
        }
        return null;
    }

    private void ask(String... texts) {
        for (String text : texts) {
            probe.add(new Call(text));
        }
    }

    /** Asks one call for each number of a range, which stands for the # of its text. */
    private void askEach(int from, int to, String... texts) {
        for (int i = from; i <= to; i++) {
            for (String text : texts) {
                ask(text.replace("#", String.valueOf(i)));
            }
        }
    }

    private void askKnobs() {
        for (int knob : LOOKED_AT) {
            ask("isDrawn(" + knob + ")");
        }
    }

    private void endProbe() {
        probes.add(new ArrayList<>(probe));
        probe.clear();
    }

    private void probeKnobs() {
        askEach(0, 40, "isDrawn(#)", "isOn(#)", "lock(#, false)", "scope(#, true)", "stage(#, 0)", "drive(#, -1)");
        endProbe();
    }

    private void probeSettings() {
        ask("guest(0)", "level(0)", "record(-)", "recorded()", "speaking()", "ended()", "loudness()");
        ask("speakingShare()", "meanPitch()", "isTrue()", "box(1, 5)", "box(2, 5)", "scale(0, true)", "pass(1)");
        askEach(0, 2, "wind(#)", "supply(#, 50)");
        askEach(0, 15, "isOnRelay(#)");
        askEach(0, 11, "temper(#, 0)", "hunt(#)");
        ask("crescendo(0)", "tutti(false)");
        endProbe();
    }

    private void probeKeys() {
        askEach(0, 31, "isDown(0, #)");
        askEach(0, 60, "isDown(1, #)", "isDown(2, #)");
        ask("lift()", "speaking()", "ended()");
        endProbe();
    }

    private void probeTime() {
        for (int i = 0; i < 12; i++) {
            ask("pass(1)", "speaking()", "ended()", "wind(0)", "wind(1)", "wind(2)", "loudness()", "meanPitch()");
        }
        ask("lift()");
        for (int i = 0; i < 12; i++) {
            ask("pass(1)", "speaking()", "ended()");
        }
        endProbe();
    }

    private void probePipes(int rank) {
        String pipe = "(" + rank + ", #)";
        askEach(0, 127, "speaks" + pipe, "begun" + pipe);
        endProbe();
        askEach(0, 127, "isOpen" + pipe, "reasons" + pipe);
        endProbe();
        askEach(0, 127, "pitch" + pipe, "tune(" + rank + ", #, 0)");
        endProbe();
        askEach(0, 127, "fault(" + rank + ", #, -)");
        endProbe();
    }

    private void probeRanks(int ranks) {
        for (int rank = 0; rank < ranks; rank++) {
            ask("heat(20, " + rank + ", 0)");
            for (int other = 0; other < ranks; other++) {
                ask("pitch(" + other + ", 60)");
            }
        }
        askEach(0, 2, "supply(#, 0)");
        for (int rank = 0; rank < ranks; rank++) {
            ask("fault(" + rank + ", 60, c)", "loudness()", "wind(0)", "wind(1)", "wind(2)");
        }
        endProbe();
    }

    private void probeStops() {
        askEach(0, 40, "row(#, 0, 0, 0, 0)", "cross(#, 0, 1)", "stage(#, 1)");
        ask("crescendo(1)", "key(1, 0, true)", "key(1, 1, true)", "speaking()", "meanPitch()");
        endProbe();
        askEach(0, 9, "rank(60, 61, 1, 1, 0, 0, 1)");
        askEach(0, 37, "stop(1)");
        endProbe();
        askEach(0, 37, "coupler(1, 2, 0, a)");
        endProbe();
    }

    private void probeWays() {
        ask("tutti(true)", "lift()");
        askEach(0, 31, "key(0, #, true)", "meanPitch()");
        askEach(0, 60, "key(1, #, true)", "meanPitch()");
        askEach(0, 60, "key(2, #, true)", "meanPitch()");
        endProbe();
        askEach(3, 12, "draw(#, true)");
        ask("tutti(true)", "lift()");
        askEach(0, 60, "key(1, #, true)", "meanPitch()", "speaking()");
        endProbe();
    }

    private void probeRelays() {
        List<String> moves = new ArrayList<>(List.of("lift()", "key(0, 0, true)", "key(0, 31, true)", "key(1, 0, true)",
                "key(1, 60, true)", "key(2, 0, true)", "key(2, 60, true)"));
        for (int knob = 0; knob < 8; knob++) {
            moves.add("draw(" + knob + ", true)");
        }
        for (String move : moves) {
            ask(move);
            askEach(0, 15, "isOnRelay(#)");
            ask("speaking()");
        }
        endProbe();
    }

    private void probeLevel(int level) {
        for (String isDrawn : new String[] {"true", "false"}) {
            ask("level(" + level + ")");
            for (int division = -1; division < 3; division++) {
                for (int piston = 0; piston < (division < 0 ? 8 : 4); piston++) {
                    askMoves("push(" + division + ", " + piston + ")", isDrawn);
                }
            }
            for (int reversible = 0; reversible < 4; reversible++) {
                ask("pushReversible(" + reversible + ")");
                askKnobs();
            }
            endProbe();
        }
    }

    private void probeFrames(int guest) {
        for (String isDrawn : new String[] {"true", "false"}) {
            ask("guest(" + guest + ")");
            for (int at = 0; at < 20; at++) {
                askMoves("turnTo(" + at + ")", isDrawn);
            }
            askEach(0, 20, "cut(0)");
            endProbe();
        }
    }

    /** What a call moves, when some knobs have been drawn ahead of it, or put in. */
    private void askMoves(String call, String isDrawn) {
        ask("draw(0, " + isDrawn + ")", "draw(3, " + isDrawn + ")", "draw(5, " + isDrawn + ")", call);
        askKnobs();
    }

    private void probeStepsAndClaims() {
        for (int level = 0; level < 4; level++) {
            for (int guest = 0; guest < 4; guest++) {
                ask("level(" + level + ")", "guest(" + guest + ")", "set(0, 0)", "claim(false)");
            }
        }
        for (int i = 0; i < 9; i++) {
            ask("step()");
            askKnobs();
        }
        endProbe();
    }

    private void probeTape() {
        ask("key(1, 0, true)", "pass(1)", "key(1, 0, false)", "recorded()", "playBack()", "pass(1)", "record(-)");
        ask("speaking()", "ended()", "playBack()", "pass(1)");
        askEach(0, 31, "isDown(0, #)");
        askEach(0, 60, "isDown(1, #)", "isDown(2, #)", "begun(0, #)");
        endProbe();
    }

    private void probeContinuo() {
        for (int bass = 0; bass < 7; bass++) {
            ask("realise(" + bass + ", 6)");
            askEach(12, 48, "isDown(1, #)");
        }
        endProbe();
    }
}

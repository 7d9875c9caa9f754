import java.util.ArrayList;
import java.util.Arrays;
import java.util.HashSet;
import java.util.LinkedHashSet;
import java.util.List;
import java.util.NoSuchElementException;
import java.util.Set;
import java.util.TreeMap;

/**
 * The document told a second time, as slowly and plainly as can be: every reason is a text in a set,
 * and all is found anew behind each act and at each tick. It serves to check the program by.
 */
public final class PlainOrgan {
    private static final class Pipe {
        final int rank;
        final int note;
        Set<String> reasons = new HashSet<>();
        boolean held;
        boolean wanted;
        long wantedSince = Long.MIN_VALUE / 4;
        boolean open;
        long closedSince = Long.MIN_VALUE / 4;
        char fault = '-';
        int tuning;
        boolean speaks;
        int begun;
        int ended;

        Pipe(int rank, int note) {
            this.rank = rank;
            this.note = note;
        }
    }

    private static final class Knob {
        char type;
        int division;
        int to;
        int shift;
        char kind;
        boolean drawn;
        boolean locked;
        boolean inScope = true;
        int relay = -1;
        int stage;
        List<int[]> rows = new ArrayList<>();
        TreeMap<Integer, Integer> wires = new TreeMap<>();

        Knob(char type, int division) {
            this.type = type;
            this.division = division;
        }
    }

    private final List<int[]> ranks = new ArrayList<>();
    private final List<Integer> heatNumbers = new ArrayList<>();
    private final List<Pipe> pipes = new ArrayList<>();
    private final List<Knob> knobs = new ArrayList<>();
    private final List<TreeMap<Integer, Long>> down = List.of(new TreeMap<>(), new TreeMap<>(), new TreeMap<>());
    private final int[] supplies = {50, 50, 50};
    private final int[] boxes = {10, 10, 10};
    private final int[] temperings = new int[12];
    private final Object[][] relays = new Object[16][];
    private final TreeMap<String, TreeMap<Integer, Boolean>> pistons = new TreeMap<>();
    private final TreeMap<String, Integer> reversibles = new TreeMap<>();
    private final TreeMap<Integer, Integer> claims = new TreeMap<>();
    private final List<List<TreeMap<Integer, Boolean>>> frames =
            List.of(new ArrayList<>(), new ArrayList<>(), new ArrayList<>(), new ArrayList<>());
    private final List<long[]> tape = new ArrayList<>();
    private char tapeKind = '-';
    private char recording = '-';
    private long now;
    private boolean tutti;
    private int crescendo;
    private int heat;
    private int guest;
    private int level;
    private int next;
    private int tonic;
    private boolean major = true;
    private int[] chord;

    public PlainOrgan() {
        for (int division = 0; division < 3; division++) {
            knobs.add(new Knob('u', division));
        }
    }

    // ---- what follows

    private static int keysOf(int division) {
        return division == 0 ? 32 : 61;
    }

    private static boolean in(int number, int least, int most) {
        return least <= number && number <= most;
    }

    private static void need(boolean is, RuntimeException otherwise) {
        if (!is) {
            throw otherwise;
        }
    }

    private static RuntimeException index() {
        return new IndexOutOfBoundsException();
    }

    private static RuntimeException argument() {
        return new IllegalArgumentException();
    }

    private static RuntimeException unsupported() {
        return new UnsupportedOperationException();
    }

    private static RuntimeException state() {
        return new IllegalStateException();
    }

    private boolean sourceOn(int source) {
        if (in(source, 0, 99)) {
            return source < knobs.size() && knobs.get(source).drawn;
        }
        if (source >= 400) {
            return relayOn(source - 400);
        }
        return down.get(source / 100 - 1).containsKey(source % 100);
    }

    private boolean relayOn(int relay) {
        Object[] wires = relays[relay];
        if (wires == null) {
            return false;
        }
        boolean first = sourceOn((Integer) wires[1]);
        switch ((Character) wires[0]) {
            case '!':
                return !first;
            case '&':
                return sourceOn((Integer) wires[2]) && first;
            case '|':
                return sourceOn((Integer) wires[2]) || first;
            default:
                return sourceOn((Integer) wires[2]) ^ first;
        }
    }

    private boolean counts(Knob knob) {
        return knob.drawn || (knob.relay >= 0 && relayOn(knob.relay));
    }

    private boolean on(Knob stop) {
        return counts(stop) || tutti || (stop.stage > 0 && crescendo >= stop.stage);
    }

    /** All that plays: {way, division and key at which it began, division and key in which it plays}. */
    private List<int[]> playing() {
        List<int[]> all = new ArrayList<>();
        for (int division = 0; division < 3; division++) {
            for (int key : down.get(division).keySet()) {
                if (!counts(knobs.get(division))) {
                    all.add(new int[] {-1, division, key, division, key});
                }
            }
        }
        for (int number = 3; number < knobs.size(); number++) {
            Knob knob = knobs.get(number);
            if (knob.type != 'c' || !counts(knob)) {
                continue;
            }
            TreeMap<Integer, Long> from = down.get(knob.division);
            for (int key : from.keySet()) {
                boolean takes = knob.kind == 'a'
                        || (knob.kind == 'm' && key == from.lastKey())
                        || (knob.kind == 'b' && key == from.firstKey())
                        || (knob.kind == 'p' && from.get(key) == now);
                if (takes && in(key + knob.shift, 0, keysOf(knob.to) - 1)) {
                    all.add(new int[] {number, knob.division, key, knob.to, key + knob.shift});
                }
            }
        }
        return all;
    }

    private Set<String> reasonsFor(int rank, int note, List<int[]> playing) {
        Set<String> found = new HashSet<>();
        for (int number = 0; number < knobs.size(); number++) {
            Knob stop = knobs.get(number);
            if (stop.type != 's' || !on(stop)) {
                continue;
            }
            for (int[] played : playing) {
                if (played[3] != stop.division) {
                    continue;
                }
                int place = stop.wires.getOrDefault(played[4], played[4]);
                for (int r = 0; r < stop.rows.size(); r++) {
                    int[] row = stop.rows.get(r);
                    if (row[0] == rank && in(place, row[2], row[3]) && 36 + place + row[1] == note) {
                        found.add(played[0] + " " + played[1] + " " + played[2] + " " + number + " " + r);
                    }
                }
            }
        }
        return found;
    }

    private boolean blown(Pipe pipe) {
        return pipe.fault == 'c' || (pipe.open && pipe.fault != 'd');
    }

    private int windOf(int division) {
        int use = 0;
        for (Pipe pipe : pipes) {
            int[] rank = ranks.get(pipe.rank);
            use += rank[3] == division && blown(pipe) ? rank[2] : 0;
        }
        int wind = 100 - (int) Math.ceil(Math.max(0, use - supplies[division]) / 2.0);
        boolean trembles = knobs.stream().anyMatch(k -> k.type == 't' && k.division == division && counts(k));
        if (trembles && (now % 4 == 2 || now % 4 == 3)) {
            wind -= 10;
        }
        return Math.max(0, wind);
    }

    private void follow() {
        List<int[]> playing = playing();
        for (Pipe pipe : pipes) {
            int[] rank = ranks.get(pipe.rank);
            pipe.reasons = reasonsFor(pipe.rank, pipe.note, playing);
            boolean wanted = pipe.held || !pipe.reasons.isEmpty();
            if (wanted != pipe.wanted) {
                pipe.wanted = wanted;
                pipe.wantedSince = now;
                if (recording == 'r') {
                    tape.add(new long[] {now, pipe.rank, pipe.note, wanted ? 1 : 0});
                }
            }
            boolean late = now - pipe.wantedSince >= rank[4];
            if (wanted && !pipe.open && late && now - pipe.closedSince >= rank[5]) {
                pipe.open = true;
            } else if (!wanted && pipe.open && late) {
                pipe.open = false;
                pipe.closedSince = now;
            }
        }
        int[] winds = {windOf(0), windOf(1), windOf(2)};
        for (Pipe pipe : pipes) {
            boolean speaks = blown(pipe) && winds[ranks.get(pipe.rank)[3]] != 0;
            pipe.begun += speaks && !pipe.speaks ? 1 : 0;
            pipe.ended += !speaks && pipe.speaks ? 1 : 0;
            pipe.speaks = speaks;
        }
    }

    private void tick(long ticks) {
        for (long i = 0; i < ticks; i++) {
            now++;
            follow();
        }
    }

    private void move(int division, int key, boolean isDown) {
        if (down.get(division).containsKey(key) == isDown) {
            return;
        }
        if (isDown) {
            down.get(division).put(key, now);
        } else {
            down.get(division).remove(key);
        }
        if (recording == 'k') {
            tape.add(new long[] {now, division, key, isDown ? 1 : 0});
        }
    }

    private Knob knob(int knob) {
        need(in(knob, 0, knobs.size() - 1), index());
        return knobs.get(knob);
    }

    private Pipe pipe(int rank, int note) {
        for (Pipe pipe : pipes) {
            if (pipe.rank == rank && pipe.note == note) {
                return pipe;
            }
        }
        throw index();
    }

    private int add(Knob knob) {
        need(knobs.size() < 40, state());
        knobs.add(knob);
        follow();
        return knobs.size() - 1;
    }

    // ---- ranks, stops, couplers

    public int rank(int lowest, int highest, int wind, int division, int delay, int rest, int power) {
        need(in(lowest, 0, 127) && in(highest, lowest, 127) && in(wind, 1, 9) && in(division, 0, 2), argument());
        need(in(delay, 0, 5) && in(rest, 0, 5) && in(power, 1, 99), argument());
        need(ranks.size() < 10, state());
        ranks.add(new int[] {lowest, highest, wind, division, delay, rest, power});
        heatNumbers.add(0);
        for (int note = lowest; note <= highest; note++) {
            pipes.add(new Pipe(ranks.size() - 1, note));
        }
        follow();
        return ranks.size() - 1;
    }

    public int stop(int division) {
        need(in(division, 0, 2), index());
        return add(new Knob('s', division));
    }

    public int row(int knob, int rank, int offset, int from, int to) {
        Knob stop = knob(knob);
        need(in(rank, 0, ranks.size() - 1), index());
        need(in(offset, -36, 60) && in(from, 0, 60) && in(to, from, 60), argument());
        need(stop.type == 's', unsupported());
        need(stop.rows.size() < 4, state());
        stop.rows.add(new int[] {rank, offset, from, to});
        follow();
        return stop.rows.size();
    }

    public int cross(int knob, int key, int other) {
        Knob stop = knob(knob);
        need(in(key, 0, 60) && in(other, 0, 60) && key != other, argument());
        need(stop.type == 's', unsupported());
        int place = stop.wires.getOrDefault(key, key);
        stop.wires.put(key, stop.wires.getOrDefault(other, other));
        stop.wires.put(other, place);
        follow();
        return (int) stop.wires.entrySet().stream().filter(e -> !e.getKey().equals(e.getValue())).count();
    }

    public int coupler(int from, int to, int shift, char kind) {
        need(in(from, 0, 2) && in(to, 0, 2), index());
        need(List.of(-12, 0, 12).contains(shift) && "ambp".indexOf(kind) >= 0, argument());
        need(from != to || shift != 0, argument());
        Knob knob = new Knob('c', from);
        knob.to = to;
        knob.shift = shift;
        knob.kind = kind;
        return add(knob);
    }

    public int tremulant(int division) {
        need(in(division, 0, 2), index());
        return add(new Knob('t', division));
    }

    public boolean draw(int knob, boolean isDrawn) {
        boolean was = knob(knob).drawn;
        knob(knob).drawn = isDrawn;
        follow();
        return was;
    }

    public boolean isDrawn(int knob) {
        return knob(knob).drawn;
    }

    public boolean isOn(int knob) {
        need(knob(knob).type == 's', unsupported());
        return on(knob(knob));
    }

    public boolean lock(int knob, boolean isLocked) {
        boolean was = knob(knob).locked;
        knob(knob).locked = isLocked;
        return was;
    }

    public int stage(int knob, int stage) {
        Knob stop = knob(knob);
        need(in(stage, 0, 9), argument());
        need(stop.type == 's', unsupported());
        int was = stop.stage;
        stop.stage = stage;
        follow();
        return was;
    }

    public int crescendo(int position) {
        need(in(position, 0, 9), argument());
        int was = crescendo;
        crescendo = position;
        follow();
        return was;
    }

    public boolean tutti(boolean isOn) {
        boolean was = tutti;
        tutti = isOn;
        follow();
        return was;
    }

    // ---- keys, time, speech

    public boolean key(int division, int key, boolean isDown) {
        boolean was = isDown(division, key);
        move(division, key, isDown);
        follow();
        return was;
    }

    public boolean isDown(int division, int key) {
        need(in(division, 0, 2) && in(key, 0, keysOf(division) - 1), index());
        return down.get(division).containsKey(key);
    }

    public int lift() {
        int count = 0;
        for (int division = 0; division < 3; division++) {
            for (int key : new ArrayList<>(down.get(division).keySet())) {
                move(division, key, false);
                count++;
            }
        }
        follow();
        return count;
    }

    public int pass(int ticks) {
        need(in(ticks, 1, 40), argument());
        tick(ticks);
        return (int) now;
    }

    public int reasons(int rank, int note) {
        Pipe pipe = pipe(rank, note);
        return pipe.reasons.size() + (pipe.held ? 1 : 0);
    }

    public int reasonsAnew(int rank, int note) {
        Pipe pipe = pipe(rank, note);
        return reasonsFor(rank, note, playing()).size() + (pipe.held ? 1 : 0);
    }

    public boolean isOpen(int rank, int note) {
        return pipe(rank, note).open;
    }

    public boolean speaks(int rank, int note) {
        return pipe(rank, note).speaks;
    }

    public int speaking() {
        return (int) pipes.stream().filter(p -> p.speaks).count();
    }

    public int begun(int rank, int note) {
        return pipe(rank, note).begun;
    }

    public long ended() {
        return pipes.stream().mapToLong(p -> p.ended).sum();
    }

    // ---- wind, sound, faults

    public int supply(int division, int supply) {
        need(in(division, 0, 2), index());
        need(in(supply, 0, 999), argument());
        int was = supplies[division];
        supplies[division] = supply;
        follow();
        return was;
    }

    public int wind(int division) {
        need(in(division, 0, 2), index());
        return windOf(division);
    }

    public int box(int division, int opening) {
        need(in(division, 1, 2) && in(opening, 0, 10), argument());
        int was = boxes[division];
        boxes[division] = opening;
        return was;
    }

    public int loudness() {
        int sum = 0;
        for (Pipe pipe : pipes) {
            int[] rank = ranks.get(pipe.rank);
            sum += pipe.speaks ? (int) Math.floor(rank[6] * boxes[rank[3]] / 10.0) : 0;
        }
        return sum;
    }

    public int temper(int note, int by) {
        need(in(note, 0, 11) && in(by, -50, 50), argument());
        int was = temperings[note];
        temperings[note] = by;
        return was;
    }

    public int tune(int rank, int note, int by) {
        Pipe pipe = pipe(rank, note);
        need(in(by, -50, 50), argument());
        int was = pipe.tuning;
        pipe.tuning = by;
        return was;
    }

    public int tuneTo(int rank, int note, int other, int with) {
        Pipe pipe = pipe(rank, note);
        pipe(other, with);
        int nearest = pipe.tuning;
        int least = Math.abs(pitch(rank, note) - pitch(other, with));
        for (int by = -50; by <= 50; by++) {
            pipe.tuning = by;
            int away = Math.abs(pitch(rank, note) - pitch(other, with));
            if (away < least) {
                least = away;
                nearest = by;
            }
        }
        pipe.tuning = nearest;
        return pitch(rank, note) - pitch(other, with);
    }

    public int heat(int heat, int rank, int number) {
        need(in(rank, 0, ranks.size() - 1), index());
        need(in(heat, -20, 20) && in(number, -9, 9), argument());
        int was = this.heat;
        this.heat = heat;
        heatNumbers.set(rank, number);
        return was;
    }

    public int pitch(int rank, int note) {
        Pipe pipe = pipe(rank, note);
        int lacks = 100 - windOf(ranks.get(rank)[3]);
        return 100 * note + temperings[note % 12] + pipe.tuning + heat * heatNumbers.get(rank) / 10 - lacks / 10;
    }

    public char fault(int rank, int note, char fault) {
        Pipe pipe = pipe(rank, note);
        need("cd-".indexOf(fault) >= 0, argument());
        char was = pipe.fault;
        pipe.fault = fault;
        follow();
        return was;
    }

    public int hunt(int rank) {
        need(in(rank, 0, ranks.size() - 1), index());
        return huntIn(pipes.stream().filter(p -> p.rank == rank).toList(), false);
    }

    private static int huntIn(List<Pipe> lot, boolean isKnown) {
        int trials = isKnown ? 0 : 1;
        if (faultless(lot) || lot.size() == 1) {
            return trials;
        }
        List<Pipe> lower = lot.subList(0, (lot.size() + 1) / 2);
        List<Pipe> upper = lot.subList((lot.size() + 1) / 2, lot.size());
        return trials + huntIn(lower, false) + huntIn(upper, faultless(lower));
    }

    private static boolean faultless(List<Pipe> lot) {
        return lot.stream().allMatch(p -> p.fault == '-');
    }

    // ---- guests, pistons, frames

    public int guest(int guest) {
        need(in(guest, 0, 3), argument());
        int was = this.guest;
        this.guest = guest;
        return was;
    }

    private void needOwnLevel() {
        need(claims.getOrDefault(level, guest) == guest, unsupported());
    }

    public boolean claim(boolean is) {
        needOwnLevel();
        boolean was = claims.containsKey(level);
        if (is) {
            claims.put(level, guest);
        } else {
            claims.remove(level);
        }
        return was;
    }

    public int level(int level) {
        need(in(level, 0, 3), argument());
        int was = this.level;
        this.level = level;
        return was;
    }

    public boolean scope(int knob, boolean isIn) {
        boolean was = knob(knob).inScope;
        knob(knob).inScope = isIn;
        return was;
    }

    private String piston(int division, int piston) {
        need(in(division, -1, 2) && in(piston, 0, division == -1 ? 7 : 3), index());
        return level + " " + division + " " + piston;
    }

    public int set(int division, int piston) {
        String name = piston(division, piston);
        needOwnLevel();
        TreeMap<Integer, Boolean> kept = new TreeMap<>();
        for (int i = 0; i < knobs.size(); i++) {
            Knob knob = knobs.get(i);
            if (division == -1 ? knob.inScope : knob.type == 's' && knob.division == division) {
                kept.put(i, knob.drawn);
            }
        }
        pistons.put(name, kept);
        return (int) kept.values().stream().filter(d -> d).count();
    }

    private int moveTo(TreeMap<Integer, Boolean> kept) {
        int moved = 0;
        for (int i : kept.keySet()) {
            Knob knob = knobs.get(i);
            if (!knob.locked && knob.drawn != kept.get(i)) {
                knob.drawn = kept.get(i);
                moved++;
            }
        }
        follow();
        return moved;
    }

    public int push(int division, int piston) {
        String name = piston(division, piston);
        need(pistons.containsKey(name), new NoSuchElementException());
        return moveTo(pistons.get(name));
    }

    public int setReversible(int reversible, int knob) {
        need(in(reversible, 0, 3), index());
        knob(knob);
        needOwnLevel();
        Integer was = reversibles.put(level + " " + reversible, knob);
        return was == null ? -1 : was;
    }

    public boolean pushReversible(int reversible) {
        need(in(reversible, 0, 3), index());
        Integer number = reversibles.get(level + " " + reversible);
        need(number != null, new NoSuchElementException());
        Knob knob = knobs.get(number);
        knob.drawn = knob.drawn == knob.locked;
        follow();
        return !knob.locked;
    }

    public int step() {
        moveTo(pistons.getOrDefault(piston(-1, next), new TreeMap<>()));
        next = next == 7 ? 0 : next + 1;
        return next;
    }

    public int frame(int at) {
        List<TreeMap<Integer, Boolean>> row = frames.get(guest);
        need(in(at, 0, row.size()), index());
        need(row.size() < 20, state());
        TreeMap<Integer, Boolean> kept = new TreeMap<>();
        for (int i = 0; i < knobs.size(); i++) {
            kept.put(i, knobs.get(i).drawn);
        }
        row.add(at, kept);
        return row.size();
    }

    public int cut(int at) {
        need(in(at, 0, frames.get(guest).size() - 1), index());
        frames.get(guest).remove(at);
        return frames.get(guest).size();
    }

    public int turnTo(int at) {
        need(in(at, 0, frames.get(guest).size() - 1), index());
        return moveTo(frames.get(guest).get(at));
    }

    // ---- relays, recording, figured bass

    private static boolean isSource(int source, int relay) {
        return in(source, 0, 99) || in(source, 100, 131) || in(source, 200, 260) || in(source, 300, 360)
                || in(source, 400, 399 + relay);
    }

    public boolean wire(int relay, char operation, int source, int other) {
        need(in(relay, 0, 15), index());
        need("&|^!".indexOf(operation) >= 0 && isSource(source, relay), argument());
        need(operation == '!' || isSource(other, relay), argument());
        relays[relay] = new Object[] {operation, source, other};
        follow();
        return relayOn(relay);
    }

    public boolean isOnRelay(int relay) {
        need(in(relay, 0, 15), index());
        return relayOn(relay);
    }

    public int drive(int knob, int relay) {
        Knob driven = knob(knob);
        need(in(relay, -1, 15), index());
        int was = driven.relay;
        driven.relay = relay;
        follow();
        return was;
    }

    public char record(char what) {
        need("kr-".indexOf(what) >= 0, argument());
        char was = recording;
        recording = what;
        if (what != '-') {
            tape.clear();
            tapeKind = what;
        }
        return was;
    }

    public int recorded() {
        return tape.size();
    }

    public int playBack() {
        need(!tape.isEmpty(), new NoSuchElementException());
        int before = pipes.stream().mapToInt(p -> p.begun).sum();
        recording = '-';
        if (tapeKind == 'k') {
            lift();
        }
        long last = tape.get(0)[0];
        for (long[] kept : tape) {
            tick(kept[0] - last);
            last = kept[0];
            if (tapeKind == 'k') {
                key((int) kept[1], (int) kept[2], kept[3] == 1);
            } else {
                pipe((int) kept[1], (int) kept[2]).held = kept[3] == 1;
                follow();
            }
        }
        pipes.forEach(p -> p.held = false);
        follow();
        return pipes.stream().mapToInt(p -> p.begun).sum() - before;
    }

    public int scale(int tonic, boolean isMajor) {
        need(in(tonic, 0, 11), argument());
        int was = this.tonic;
        this.tonic = tonic;
        major = isMajor;
        chord = null;
        return was;
    }

    public int realise(int bass, char figure) {
        need(in(bass, 0, 31), index());
        need("5647".indexOf(figure) >= 0, argument());
        List<Integer> scale = new ArrayList<>();
        for (int above : major ? new int[] {0, 2, 4, 5, 7, 9, 11} : new int[] {0, 2, 3, 5, 7, 8, 10}) {
            scale.add((tonic + above) % 12);
        }
        int degree = scale.indexOf((36 + bass) % 12);
        need(degree >= 0, unsupported());
        int[] steps = figure == '5' ? new int[] {0, 2, 4} : figure == '6' ? new int[] {0, 2, 5}
                : figure == '4' ? new int[] {0, 3, 5} : new int[] {2, 4, 6};
        Set<Integer> classes = new HashSet<>();
        for (int step : steps) {
            classes.add(scale.get((degree + step) % 7));
        }
        int[] best = null;
        for (int a = 12; a <= 48; a++) {
            for (int b = a + 1; b <= 48; b++) {
                for (int c = b + 1; c <= 48 && c - a <= 12; c++) {
                    if (Set.copyOf(List.of(a % 12, b % 12, c % 12)).equals(classes)) {
                        int[] found = weighed(bass, a, b, c);
                        best = best == null || Arrays.compare(found, best) < 0 ? found : best;
                    }
                }
            }
        }
        chord = new int[] {bass + 36, best[2] + 36, best[3] + 36, best[4] + 36};
        press(bass, best);
        return best[0];
    }

    private void press(int bass, int[] best) {
        Set<Integer> upper = new LinkedHashSet<>(List.of(best[2], best[3], best[4]));
        for (int key : new ArrayList<>(down.get(0).keySet())) {
            move(0, key, key == bass);
        }
        for (int key : new ArrayList<>(down.get(1).keySet())) {
            move(1, key, upper.contains(key));
        }
        move(0, bass, true);
        upper.forEach(key -> move(1, key, true));
        follow();
    }

    private int[] weighed(int bass, int a, int b, int c) {
        int[] notes = {bass + 36, a + 36, b + 36, c + 36};
        int[] old = chord == null ? new int[] {0, 60, 64, 67} : chord;
        int bad = 0;
        for (int i = 0; chord != null && i < 4; i++) {
            for (int j = i + 1; j < 4; j++) {
                int was = Math.abs(old[i] - old[j]);
                int is = Math.abs(notes[i] - notes[j]);
                boolean fifths = was % 12 == 7 && is % 12 == 7;
                boolean octaves = was != 0 && is != 0 && was % 12 == 0 && is % 12 == 0;
                bad += (fifths || octaves) && notes[i] != old[i] && notes[j] != old[j] ? 1 : 0;
            }
        }
        int far = Math.abs(notes[1] - old[1]) + Math.abs(notes[2] - old[2]) + Math.abs(notes[3] - old[3]);
        return new int[] {bad, far, a, b, c};
    }

    public float speakingShare() {
        need(!pipes.isEmpty(), new ArithmeticException());
        return (float) speaking() / (float) pipes.size();
    }

    public double meanPitch() {
        need(speaking() > 0, new ArithmeticException());
        int sum = pipes.stream().filter(p -> p.speaks).mapToInt(p -> pitch(p.rank, p.note)).sum();
        return (double) sum / (double) speaking();
    }

    public boolean isTrue() {
        return pipes.stream().allMatch(p -> p.begun == p.ended + (p.speaks ? 1 : 0)
                && p.reasons.equals(reasonsFor(p.rank, p.note, playing())));
    }
}

import java.util.ArrayList;
import java.util.Arrays;
import java.util.NoSuchElementException;

/** A great organ as a machine; what each call does is told by its promise in the document. */
public final class Rankhall {
    private static final int DIVISIONS = 3;
    private static final int PEDAL_KEYS = 32;
    private static final int MANUAL_KEYS = 61;
    private static final int ALL_PLACES = DIVISIONS * MANUAL_KEYS;
    private static final int FIRST_NOTE = 36;
    private static final int NOTES = 128;
    private static final int OCTAVE = 12;
    private static final int MOST_RANKS = 10;
    private static final int MOST_KNOBS = 40;
    private static final int MOST_ROWS = 4;
    private static final int RELAYS = 16;
    private static final int MOST_TICKS = 40;
    private static final int FULL_WIND = 100;
    private static final int FULL_BOX = 10;
    private static final int MOST_TUNING = 50;
    private static final int LONGEST_REST = 5;

    private final Works works = new Works();
    private final Keys keys = works.keys;
    private final Console console = works.console;
    private final Tape tape = works.tape;
    private final Memory memory = new Memory();
    private final Continuo continuo = new Continuo();

    public Rankhall() {
    }

    // ---- ranks, stops, couplers

    public int rank(int lowest, int highest, int wind, int division, int delay, int rest, int power)
            throws IllegalArgumentException, IllegalStateException {
        needRange(lowest, 0, NOTES - 1);
        needRange(highest, lowest, NOTES - 1);
        needRange(wind, 1, 9);
        needRange(division, 0, DIVISIONS - 1);
        needRange(delay, 0, 5);
        needRange(rest, 0, LONGEST_REST);
        needRange(power, 1, 99);
        if (works.ranks.size() >= MOST_RANKS) {
            throw new IllegalStateException("there are 10 ranks");
        }
        Rank added = new Rank(lowest, highest, division);
        added.use = wind;
        added.delay = delay;
        added.rest = rest;
        added.power = power;
        works.ranks.add(added);
        works.settle();
        return works.ranks.size() - 1;
    }

    public int stop(int division) throws IndexOutOfBoundsException, IllegalStateException {
        needDivision(division);
        needRoomForKnob();
        return addKnob(new Knob('s', division, new Stop(), null));
    }

    public int row(int knob, int rank, int offset, int from, int to)
            throws IndexOutOfBoundsException, IllegalArgumentException, UnsupportedOperationException,
            IllegalStateException {
        Knob found = needKnob(knob);
        needRank(rank);
        needRange(offset, -36, 60);
        needRange(from, 0, MANUAL_KEYS - 1);
        needRange(to, from, MANUAL_KEYS - 1);
        Stop stop = needStop(found);
        if (!stop.addRow(rank, offset, from, to)) {
            throw new IllegalStateException("the stop has 4 rows");
        }
        works.settle();
        return stop.rows;
    }

    public int cross(int knob, int key, int other)
            throws IndexOutOfBoundsException, IllegalArgumentException, UnsupportedOperationException {
        Knob found = needKnob(knob);
        needRange(key, 0, MANUAL_KEYS - 1);
        needRange(other, 0, MANUAL_KEYS - 1);
        if (key == other) {
            throw new IllegalArgumentException("both keys are the same");
        }
        Stop stop = needStop(found);
        stop.changePlaces(key, other);
        works.settle();
        return stop.displaced();
    }

    public int coupler(int from, int to, int shift, char kind)
            throws IndexOutOfBoundsException, IllegalArgumentException, IllegalStateException {
        needDivision(from);
        needDivision(to);
        boolean isShift = shift == -OCTAVE || shift == 0 || shift == OCTAVE;
        boolean isKind = kind == 'a' || kind == 'm' || kind == 'b' || kind == 'p';
        if (!isShift || !isKind || (from == to && shift == 0)) {
            throw new IllegalArgumentException("no such coupler");
        }
        needRoomForKnob();
        return addKnob(new Knob('c', from, null, new Coupler(from, to, shift, kind)));
    }

    public int tremulant(int division) throws IndexOutOfBoundsException, IllegalStateException {
        needDivision(division);
        needRoomForKnob();
        return addKnob(new Knob('t', division, null, null));
    }

    public boolean draw(int knob, boolean isDrawn) throws IndexOutOfBoundsException {
        Knob drawn = needKnob(knob);
        boolean wasDrawn = drawn.isOut;
        drawn.isOut = isDrawn;
        works.settle();
        return wasDrawn;
    }

    public boolean isDrawn(int knob) throws IndexOutOfBoundsException {
        return needKnob(knob).isOut;
    }

    public boolean isOn(int knob) throws IndexOutOfBoundsException, UnsupportedOperationException {
        Knob found = needKnob(knob);
        needStop(found);
        return console.isSounding(found);
    }

    public boolean lock(int knob, boolean isLocked) throws IndexOutOfBoundsException {
        Knob locked = needKnob(knob);
        boolean wasLocked = locked.isLocked;
        locked.isLocked = isLocked;
        return wasLocked;
    }

    public int stage(int knob, int stage)
            throws IndexOutOfBoundsException, IllegalArgumentException, UnsupportedOperationException {
        Knob found = needKnob(knob);
        needRange(stage, 0, 9);
        Stop stop = needStop(found);
        int before = stop.stage;
        stop.stage = stage;
        works.settle();
        return before;
    }

    public int crescendo(int position) throws IllegalArgumentException {
        needRange(position, 0, 9);
        int before = console.crescendo;
        console.crescendo = position;
        works.settle();
        return before;
    }

    public boolean tutti(boolean isOn) {
        boolean before = console.isTutti;
        console.isTutti = isOn;
        works.settle();
        return before;
    }

    // ---- keys, time, speech

    public boolean key(int division, int key, boolean isDown) throws IndexOutOfBoundsException {
        needKey(division, key);
        boolean wasDown = keys.isPressed(division, key);
        works.pressKey(division, key, isDown);
        works.settle();
        return wasDown;
    }

    public boolean isDown(int division, int key) throws IndexOutOfBoundsException {
        needKey(division, key);
        return keys.isPressed(division, key);
    }

    public int lift() {
        return works.releaseAll();
    }

    public int pass(int ticks) throws IllegalArgumentException {
        needRange(ticks, 1, MOST_TICKS);
        works.passTicks(ticks);
        return works.now;
    }

    public int reasons(int rank, int note) throws IndexOutOfBoundsException {
        return needPipe(rank, note).allReasons();
    }

    public int reasonsAnew(int rank, int note) throws IndexOutOfBoundsException {
        needPipe(rank, note);
        return works.reasonsAlone(rank, note);
    }

    public boolean isOpen(int rank, int note) throws IndexOutOfBoundsException {
        return needPipe(rank, note).isOpened;
    }

    public boolean speaks(int rank, int note) throws IndexOutOfBoundsException {
        return needPipe(rank, note).isSpeaking;
    }

    public int speaking() {
        return works.speakers;
    }

    public int begun(int rank, int note) throws IndexOutOfBoundsException {
        return needPipe(rank, note).begins;
    }

    public long ended() {
        return works.allEnds;
    }

    // ---- wind, sound, faults

    public int supply(int division, int supply) throws IndexOutOfBoundsException, IllegalArgumentException {
        needDivision(division);
        needRange(supply, 0, 999);
        int before = works.supplies[division];
        works.supplies[division] = supply;
        works.settle();
        return before;
    }

    public int wind(int division) throws IndexOutOfBoundsException {
        needDivision(division);
        return works.winds[division];
    }

    public int box(int division, int opening) throws IllegalArgumentException {
        needRange(division, 1, DIVISIONS - 1);
        needRange(opening, 0, FULL_BOX);
        int before = works.openings[division];
        works.openings[division] = opening;
        return before;
    }

    public int loudness() {
        return works.allLoudness();
    }

    public int temper(int note, int by) throws IllegalArgumentException {
        needRange(note, 0, OCTAVE - 1);
        needRange(by, -MOST_TUNING, MOST_TUNING);
        int before = works.temperings[note];
        works.temperings[note] = by;
        return before;
    }

    public int tune(int rank, int note, int by) throws IndexOutOfBoundsException, IllegalArgumentException {
        Pipe pipe = needPipe(rank, note);
        needRange(by, -MOST_TUNING, MOST_TUNING);
        int before = pipe.tuning;
        pipe.tuning = by;
        return before;
    }

    public int tuneTo(int rank, int note, int other, int with) throws IndexOutOfBoundsException {
        Pipe pipe = needPipe(rank, note);
        needPipe(other, with);
        int needed = pipe.tuning + works.pitchOf(other, with) - works.pitchOf(rank, note);
        pipe.tuning = Math.max(-MOST_TUNING, Math.min(MOST_TUNING, needed));
        return works.pitchOf(rank, note) - works.pitchOf(other, with);
    }

    public int heat(int heat, int rank, int number) throws IndexOutOfBoundsException, IllegalArgumentException {
        Rank heated = needRank(rank);
        needRange(heat, -20, 20);
        needRange(number, -9, 9);
        int before = works.heat;
        works.heat = heat;
        heated.heatNumber = number;
        return before;
    }

    public int pitch(int rank, int note) throws IndexOutOfBoundsException {
        needPipe(rank, note);
        return works.pitchOf(rank, note);
    }

    public char fault(int rank, int note, char fault) throws IndexOutOfBoundsException, IllegalArgumentException {
        Pipe pipe = needPipe(rank, note);
        if (fault != 'c' && fault != 'd' && fault != '-') {
            throw new IllegalArgumentException("no such fault");
        }
        char before = pipe.fault;
        pipe.fault = fault;
        works.settle();
        return before;
    }

    public int hunt(int rank) throws IndexOutOfBoundsException {
        return needRank(rank).trials();
    }

    // ---- guests, pistons, frames

    public int guest(int guest) throws IllegalArgumentException {
        needRange(guest, 0, Memory.GUESTS - 1);
        return memory.changeGuest(guest);
    }

    public boolean claim(boolean is) throws UnsupportedOperationException {
        needOwnLevel();
        boolean wasClaimed = memory.isClaimed();
        memory.putClaim(is);
        return wasClaimed;
    }

    public int level(int level) throws IllegalArgumentException {
        needRange(level, 0, Memory.LEVELS - 1);
        return memory.changeLevel(level);
    }

    public boolean scope(int knob, boolean isIn) throws IndexOutOfBoundsException {
        Knob scoped = needKnob(knob);
        boolean wasIn = scoped.isInScope;
        scoped.isInScope = isIn;
        return wasIn;
    }

    public int set(int division, int piston) throws IndexOutOfBoundsException, UnsupportedOperationException {
        int place = needPiston(division, piston);
        needOwnLevel();
        long kept = division < 0 ? console.knobsInScope() : console.stopsOf(division);
        long drawn = console.drawnAmong(kept);
        memory.keep(place, kept, drawn);
        return Long.bitCount(drawn);
    }

    public int push(int division, int piston) throws IndexOutOfBoundsException, NoSuchElementException {
        int place = needPiston(division, piston);
        if (!memory.isKept(place)) {
            throw new NoSuchElementException("the piston was not set in this level");
        }
        return moveKnobs(memory.keptBy(place), memory.drawnBy(place));
    }

    public int setReversible(int reversible, int knob)
            throws IndexOutOfBoundsException, UnsupportedOperationException {
        needReversible(reversible);
        needKnob(knob);
        needOwnLevel();
        int before = memory.reversibleKnob(reversible);
        memory.keepReversible(reversible, knob);
        return before;
    }

    public boolean pushReversible(int reversible) throws IndexOutOfBoundsException, NoSuchElementException {
        needReversible(reversible);
        int number = memory.reversibleKnob(reversible);
        Knob knob = console.knobAt(number);
        if (knob == null) {
            throw new NoSuchElementException("the reversible was not set in this level");
        }
        return moveKnobs(1L << number, knob.isOut ? 0L : 1L << number) > 0;
    }

    public int step() {
        int place = Memory.placeOf(-1, memory.next);
        if (memory.isKept(place)) {
            moveKnobs(memory.keptBy(place), memory.drawnBy(place));
        }
        memory.next = (memory.next + 1) % Memory.GENERALS;
        return memory.next;
    }

    public int frame(int at) throws IndexOutOfBoundsException, IllegalStateException {
        if (at < 0 || at > memory.frames()) {
            throw new IndexOutOfBoundsException("no such place");
        }
        if (memory.frames() >= Memory.MOST_FRAMES) {
            throw new IllegalStateException("there are 20 frames");
        }
        long all = console.allKnobs();
        memory.insertFrame(at, all, console.drawnAmong(all));
        return memory.frames();
    }

    public int cut(int at) throws IndexOutOfBoundsException {
        needFrame(at);
        memory.removeFrame(at);
        return memory.frames();
    }

    public int turnTo(int at) throws IndexOutOfBoundsException {
        needFrame(at);
        return moveKnobs(memory.keptByFrame(at), memory.drawnByFrame(at));
    }

    // ---- relays, recording, figured bass

    public boolean wire(int relay, char operation, int source, int other)
            throws IndexOutOfBoundsException, IllegalArgumentException {
        needRelay(relay);
        boolean isOperation = operation == '&' || operation == '|' || operation == '^' || operation == '!';
        if (!isOperation || !Console.isSource(source, relay)) {
            throw new IllegalArgumentException("no such operation or first source");
        }
        if (operation != '!' && !Console.isSource(other, relay)) {
            throw new IllegalArgumentException("no such second source");
        }
        console.putWires(relay, operation, source, other);
        works.settle();
        return console.isRelayOn(relay);
    }

    public boolean isOnRelay(int relay) throws IndexOutOfBoundsException {
        needRelay(relay);
        return console.isRelayOn(relay);
    }

    public int drive(int knob, int relay) throws IndexOutOfBoundsException {
        Knob driven = needKnob(knob);
        if (relay != -1) {
            needRelay(relay);
        }
        int before = driven.relay;
        driven.relay = relay;
        works.settle();
        return before;
    }

    public char record(char what) throws IllegalArgumentException {
        if (what != 'k' && what != 'r' && what != '-') {
            throw new IllegalArgumentException("no such thing to record");
        }
        char before = tape.recording;
        if (what == '-') {
            tape.recording = '-';
        } else {
            tape.start(what, works.now);
        }
        return before;
    }

    public int recorded() {
        return tape.size;
    }

    public int playBack() throws NoSuchElementException {
        if (tape.size == 0) {
            throw new NoSuchElementException("nothing was recorded");
        }
        int before = works.allBegins;
        boolean isOfKeys = tape.kind == 'k';
        tape.recording = '-';
        if (isOfKeys) {
            works.releaseAll();
        }
        for (int i = 0; i < tape.size; i++) {
            works.passTicks(tape.ticksBefore(i));
            if (isOfKeys) {
                works.pressKey(tape.highCodeAt(i), tape.lowCodeAt(i), tape.isOnAt(i));
            } else {
                works.hold(tape.highCodeAt(i), tape.lowCodeAt(i), tape.isOnAt(i));
            }
            works.settle();
        }
        works.holdNone();
        return works.allBegins - before;
    }

    public int scale(int tonic, boolean isMajor) throws IllegalArgumentException {
        needRange(tonic, 0, OCTAVE - 1);
        int before = continuo.tonic;
        continuo.begin(tonic, isMajor);
        return before;
    }

    public int realise(int bass, char figure)
            throws IndexOutOfBoundsException, IllegalArgumentException, UnsupportedOperationException {
        needKey(0, bass);
        int[] steps = Continuo.stepsOf(figure);
        if (steps.length == 0) {
            throw new IllegalArgumentException("no such figure");
        }
        if (continuo.degreeOf(bass) < 0) {
            throw new UnsupportedOperationException("the key is not of the scale");
        }
        int badSteps = continuo.choose(bass, steps);
        works.pressChord(continuo);
        return badSteps;
    }

    public float speakingShare() throws ArithmeticException {
        int pipes = works.allPipes();
        if (pipes == 0) {
            throw new ArithmeticException("there are no pipes");
        }
        return (float) works.speakers / (float) pipes;
    }

    public double meanPitch() throws ArithmeticException {
        int pipes = works.speakers;
        if (pipes == 0) {
            throw new ArithmeticException("no pipe speaks");
        }
        return (double) works.sumOfPitches() / (double) pipes;
    }

    public boolean isTrue() {
        return works.isConsistent();
    }

    // ---- what the calls need

    private static boolean isDivision(int division) {
        return division >= 0 && division < DIVISIONS;
    }

    private static void needDivision(int division) {
        if (!isDivision(division)) {
            throw new IndexOutOfBoundsException("no such division");
        }
    }

    private static void needKey(int division, int key) {
        if (Keys.indexOf(division, key) < 0) {
            throw new IndexOutOfBoundsException("no such division or key");
        }
    }

    private static void needRange(int number, int least, int most) {
        if (number < least || number > most) {
            throw new IllegalArgumentException("a number is out of range");
        }
    }

    private static void needRelay(int relay) {
        if (relay < 0 || relay >= RELAYS) {
            throw new IndexOutOfBoundsException("no such relay");
        }
    }

    private static void needReversible(int reversible) {
        if (reversible < 0 || reversible >= Memory.REVERSIBLES) {
            throw new IndexOutOfBoundsException("no such reversible");
        }
    }

    private static int needPiston(int division, int piston) {
        int place = Memory.placeOf(division, piston);
        if (place < 0) {
            throw new IndexOutOfBoundsException("no such division or piston");
        }
        return place;
    }

    private void needFrame(int at) {
        if (at < 0 || at >= memory.frames()) {
            throw new IndexOutOfBoundsException("no such frame");
        }
    }

    private void needOwnLevel() {
        if (memory.isClaimedByAnother()) {
            throw new UnsupportedOperationException("another guest has claimed the level");
        }
    }

    private void needRoomForKnob() {
        if (console.knobs.size() >= MOST_KNOBS) {
            throw new IllegalStateException("there are 40 knobs");
        }
    }

    private Knob needKnob(int knob) {
        Knob found = console.knobAt(knob);
        if (found == null) {
            throw new IndexOutOfBoundsException("no such knob");
        }
        return found;
    }

    private static Stop needStop(Knob knob) {
        if (knob.stop == null) {
            throw new UnsupportedOperationException("the knob is no stop's");
        }
        return knob.stop;
    }

    private Rank needRank(int rank) {
        Rank found = works.rankAt(rank);
        if (found == null) {
            throw new IndexOutOfBoundsException("no such rank");
        }
        return found;
    }

    private Pipe needPipe(int rank, int note) {
        Pipe found = works.pipeAt(rank, note);
        if (found == null) {
            throw new IndexOutOfBoundsException("no such rank or note of it");
        }
        return found;
    }

    private int addKnob(Knob knob) {
        console.knobs.add(knob);
        works.settle();
        return console.knobs.size() - 1;
    }

    private int moveKnobs(long kept, long drawn) {
        int moved = console.moveTo(kept, drawn);
        works.settle();
        return moved;
    }

    /** One pipe, with its pallet. */
    private static final class Pipe {
        int found;
        boolean isHeld;
        boolean isWanted;
        int changedAt;
        boolean isOpened;
        // every rest is over at the tick 0 already
        int closedAt = -LONGEST_REST;
        char fault = '-';
        int tuning;
        boolean isSpeaking;
        int begins;
        int ends;

        int allReasons() {
            return isHeld ? found + 1 : found;
        }

        boolean isBlown() {
            return fault == 'c' || (fault != 'd' && isOpened);
        }

        void movePallet(int now, int delay, int rest) {
            if (isWanted == isOpened || now - changedAt < delay) {
                return;
            }
            if (isOpened) {
                isOpened = false;
                closedAt = now;
            } else if (now - closedAt >= rest) {
                isOpened = true;
            }
        }
    }

    /** A rank of pipes. */
    private static final class Rank {
        private static final int DEEPEST = 40;
        final int lowest;
        final int division;
        final Pipe[] pipes;
        int use;
        int delay;
        int rest;
        int power;
        int heatNumber;

        Rank(int lowest, int highest, int division) {
            this.lowest = lowest;
            // an index for whoever asks a rank for it
            this.division = isDivision(division) ? division : 0;
            int count = Math.max(0, Math.min(NOTES, highest - lowest + 1));
            pipes = new Pipe[count];
            for (int i = 0; i < count; i++) {
                pipes[i] = new Pipe();
            }
        }

        Pipe pipeOf(int note) {
            if (note < lowest || note >= lowest + pipes.length) {
                return null;
            }
            return pipes[note - lowest];
        }

        int trials() {
            int last = pipes.length - 1;
            return hasFault(pipes, 0, last) ? 1 + trialsInside(pipes, 0, last, 0) : 1;
        }

        /** The trials inside a lot that is known to have a fault. */
        private static int trialsInside(Pipe[] pipes, int from, int to, int depth) {
            if (from >= to || depth > DEEPEST) {
                return 0;
            }
            int middle = from + (to - from) / 2;
            int trials = 1;
            if (hasFault(pipes, from, middle)) {
                // only then the upper part has to be tried, too
                trials += 1 + trialsInside(pipes, from, middle, depth + 1);
            }
            if (hasFault(pipes, middle + 1, to)) {
                trials += trialsInside(pipes, middle + 1, to, depth + 1);
            }
            return trials;
        }

        private static boolean hasFault(Pipe[] pipes, int from, int to) {
            for (int i = Math.max(0, from); i <= to && i < pipes.length; i++) {
                if (pipes[i].fault != '-') {
                    return true;
                }
            }
            return false;
        }
    }

    /** A knob: 'u' puts a unison off, 's' is a stop's, 'c' a coupler's, 't' a tremulant's. */
    private static final class Knob {
        final char kind;
        final int division;
        // a stop's alone
        final Stop stop;
        // a coupler's; a unison is one, too: from its division to the same one
        final Coupler coupler;
        boolean isOut;
        boolean isLocked;
        boolean isInScope = true;
        int relay = -1;

        Knob(char kind, int division, Stop stop, Coupler coupler) {
            this.kind = kind;
            this.division = division;
            this.stop = stop;
            this.coupler = coupler;
        }
    }

    /** The rows and wires of a stop. */
    private static final class Stop {
        int stage;
        int rows;
        private final int[] ranks = new int[MOST_ROWS];
        private final int[] offsets = new int[MOST_ROWS];
        private final int[] firsts = new int[MOST_ROWS];
        private final int[] lasts = new int[MOST_ROWS];
        private final int[] places = new int[MANUAL_KEYS];
        // the key of each place: the wires looked at from their other end
        private final int[] keysAt = new int[MANUAL_KEYS];

        Stop() {
            for (int key = 0; key < MANUAL_KEYS; key++) {
                places[key] = key;
                keysAt[key] = key;
            }
        }

        boolean addRow(int rank, int offset, int from, int to) {
            if (rows < 0 || rows >= MOST_ROWS) {
                return false;
            }
            ranks[rows] = rank;
            offsets[rows] = offset;
            firsts[rows] = from;
            lasts[rows] = to;
            rows++;
            return true;
        }

        void changePlaces(int key, int other) {
            int place = placeOf(key);
            int otherPlace = placeOf(other);
            putPlace(key, otherPlace);
            putPlace(other, place);
        }

        private int placeOf(int key) {
            return key < 0 || key >= MANUAL_KEYS ? -1 : places[key];
        }

        private void putPlace(int key, int place) {
            if (key >= 0 && key < MANUAL_KEYS && place >= 0 && place < MANUAL_KEYS) {
                places[key] = place;
                keysAt[place] = key;
            }
        }

        int displaced() {
            int count = 0;
            for (int key = 0; key < MANUAL_KEYS; key++) {
                if (places[key] != key) {
                    count++;
                }
            }
            return count;
        }

        private boolean hasRow(int row) {
            return row >= 0 && row < rows && row < MOST_ROWS;
        }

        /** The rank of a row, -1 if there is no such row. */
        int rankOf(int row) {
            return hasRow(row) ? ranks[row] : -1;
        }

        /** The note that a row gives to a key, -1 if the row does not count for its place. */
        int noteOf(int row, int key) {
            int place = placeOf(key);
            boolean counts = hasRow(row) && place >= firsts[row] && place <= lasts[row];
            return counts ? FIRST_NOTE + place + offsets[row] : -1;
        }

        /** The key to which a row gives a note, -1 if there is none. */
        int keyOf(int row, int note) {
            if (!hasRow(row)) {
                return -1;
            }
            int place = note - FIRST_NOTE - offsets[row];
            boolean counts = place >= firsts[row] && place <= lasts[row];
            return counts && place >= 0 && place < MANUAL_KEYS ? keysAt[place] : -1;
        }
    }

    /** A way from keys of a division into a division. */
    private static final class Coupler {
        final int from;
        final int to;
        final int shift;
        private final char kind;

        Coupler(int from, int to, int shift, char kind) {
            this.from = from;
            this.to = to;
            this.shift = shift;
            this.kind = kind;
        }

        boolean takes(int key, Keys keys, int now) {
            if (!keys.isPressed(from, key)) {
                return false;
            }
            if (kind == 'm') {
                return key == keys.highestOf(from);
            }
            if (kind == 'b') {
                return key == keys.lowestOf(from);
            }
            return kind == 'a' || keys.tickOf(from, key) == now;
        }
    }

    /** The keys of all divisions, and the ticks at which they went down. */
    private static final class Keys {
        private final boolean[] pressed = new boolean[ALL_PLACES];
        private final int[] pressedAt = new int[ALL_PLACES];
        private final int[] lowest = new int[DIVISIONS];
        private final int[] highest = new int[DIVISIONS];
        int lastPressedAt = -1;

        Keys() {
            Arrays.fill(lowest, -1);
            Arrays.fill(highest, -1);
        }

        static int countOf(int division) {
            return division == 0 ? PEDAL_KEYS : MANUAL_KEYS;
        }

        /** The index of a key among those of all divisions, -1 if there is no such key. */
        static int indexOf(int division, int key) {
            if (division < 0 || division >= DIVISIONS || key < 0 || key >= MANUAL_KEYS) {
                return -1;
            }
            return division == 0 && key >= PEDAL_KEYS ? -1 : division * MANUAL_KEYS + key;
        }

        boolean isPressed(int division, int key) {
            int index = indexOf(division, key);
            return index >= 0 && pressed[index];
        }

        int tickOf(int division, int key) {
            int index = indexOf(division, key);
            return index < 0 ? -1 : pressedAt[index];
        }

        int lowestOf(int division) {
            return division < 0 || division >= DIVISIONS ? -1 : lowest[division];
        }

        int highestOf(int division) {
            return division < 0 || division >= DIVISIONS ? -1 : highest[division];
        }

        boolean isAnyPressed() {
            return lowest[0] >= 0 || lowest[1] >= 0 || lowest[2] >= 0;
        }

        /** Returns whether the key has moved. */
        boolean put(int division, int key, boolean isPressed, int now) {
            int index = indexOf(division, key);
            if (index < 0 || pressed[index] == isPressed) {
                return false;
            }
            pressed[index] = isPressed;
            if (isPressed) {
                pressedAt[index] = now;
                lastPressedAt = now;
            }
            lowest[division] = firstPressed(division, 0, 1);
            highest[division] = firstPressed(division, countOf(division) - 1, -1);
            return true;
        }

        /** The first key that is down on the way from a key, upwards or downwards; -1 if there is none. */
        private int firstPressed(int division, int from, int step) {
            int key = from;
            for (int i = 0; i < countOf(division); i++) {
                if (isPressed(division, key)) {
                    return key;
                }
                key += step;
            }
            return -1;
        }
    }

    /** All knobs, what puts stops on beside them, and the relays. */
    private static final class Console {
        final ArrayList<Knob> knobs = new ArrayList<>();
        boolean isTutti;
        int crescendo;
        private final char[] operations = new char[RELAYS];
        private final int[] sources = new int[RELAYS];
        private final int[] others = new int[RELAYS];
        private final boolean[] relaysOn = new boolean[RELAYS];

        Console() {
            for (int division = 0; division < DIVISIONS; division++) {
                knobs.add(new Knob('u', division, null, new Coupler(division, division, 0, 'a')));
            }
        }

        Knob knobAt(int number) {
            return number < 0 || number >= knobs.size() ? null : knobs.get(number);
        }

        boolean countsAsDrawn(Knob knob) {
            int relay = knob.relay;
            return knob.isOut || (relay >= 0 && relay < RELAYS && relaysOn[relay]);
        }

        boolean isSounding(Knob knob) {
            Stop stop = knob.stop;
            if (stop == null) {
                return false;
            }
            return isTutti || countsAsDrawn(knob) || (stop.stage > 0 && crescendo >= stop.stage);
        }

        boolean trembles(int division) {
            for (int i = 0; i < knobs.size(); i++) {
                Knob knob = knobs.get(i);
                if (knob.kind == 't' && knob.division == division && countsAsDrawn(knob)) {
                    return true;
                }
            }
            return false;
        }

        /** Whether keys play by a knob: a unison's puts its way off, a coupler's puts it on. */
        boolean isWay(Knob knob) {
            return knob.coupler != null && countsAsDrawn(knob) == (knob.kind == 'c');
        }

        /** By how many ways a key plays in a division. */
        int waysOf(int division, int key, Keys keys, int now) {
            int ways = 0;
            for (int i = 0; i < knobs.size(); i++) {
                Knob knob = knobs.get(i);
                Coupler coupler = knob.coupler;
                if (coupler != null && coupler.to == division && isWay(knob)
                        && coupler.takes(key - coupler.shift, keys, now)) {
                    ways++;
                }
            }
            return ways;
        }

        static boolean isSource(int source, int relay) {
            if (source >= 400) {
                return source - 400 < relay;
            }
            return source >= 0 && (source < 100 || Keys.indexOf(source / 100 - 1, source % 100) >= 0);
        }

        void putWires(int relay, char operation, int source, int other) {
            if (relay >= 0 && relay < RELAYS) {
                operations[relay] = operation;
                sources[relay] = source;
                others[relay] = other;
            }
        }

        boolean isRelayOn(int relay) {
            return relay >= 0 && relay < RELAYS && relaysOn[relay];
        }

        /** Goes upwards, as relays look at lower ones only. */
        void findRelays(Keys keys) {
            for (int relay = 0; relay < RELAYS; relay++) {
                boolean isFirst = isSourceOn(sources[relay], keys);
                boolean isSecond = isSourceOn(others[relay], keys);
                relaysOn[relay] = combines(operations[relay], isFirst, isSecond);
            }
        }

        private static boolean combines(char operation, boolean isFirst, boolean isSecond) {
            if (operation == '&') {
                return isFirst && isSecond;
            }
            if (operation == '|') {
                return isFirst || isSecond;
            }
            if (operation == '^') {
                return isFirst != isSecond;
            }
            return operation == '!' && !isFirst;
        }

        private boolean isSourceOn(int source, Keys keys) {
            if (source >= 400) {
                return isRelayOn(source - 400);
            }
            if (source >= 100) {
                return keys.isPressed(source / 100 - 1, source % 100);
            }
            Knob knob = knobAt(source);
            return knob != null && knob.isOut;
        }

        // sets of knobs are told by bits, as there are at most 40 knobs

        long allKnobs() {
            return (1L << knobs.size()) - 1L;
        }

        long knobsInScope() {
            long set = 0L;
            for (int i = 0; i < knobs.size(); i++) {
                if (knobs.get(i).isInScope) {
                    set |= 1L << i;
                }
            }
            return set;
        }

        long stopsOf(int division) {
            long set = 0L;
            for (int i = 0; i < knobs.size(); i++) {
                Knob knob = knobs.get(i);
                if (knob.kind == 's' && knob.division == division) {
                    set |= 1L << i;
                }
            }
            return set;
        }

        long drawnAmong(long set) {
            long drawn = 0L;
            for (int i = 0; i < knobs.size(); i++) {
                if (knobs.get(i).isOut) {
                    drawn |= 1L << i;
                }
            }
            return drawn & set;
        }

        /** Moves the kept knobs that are not locked; returns how many are moved. */
        int moveTo(long kept, long drawn) {
            int moved = 0;
            for (int i = 0; i < knobs.size(); i++) {
                Knob knob = knobs.get(i);
                boolean isOut = (drawn >> i & 1L) == 1L;
                if ((kept >> i & 1L) == 1L && !knob.isLocked && knob.isOut != isOut) {
                    knob.isOut = isOut;
                    moved++;
                }
            }
            return moved;
        }
    }

    /** Ranks, time, wind and speech: what follows from knobs and keys. */
    private static final class Works {
        final Keys keys = new Keys();
        final Console console = new Console();
        final Tape tape = new Tape();
        final ArrayList<Rank> ranks = new ArrayList<>();
        int now;
        int speakers;
        int allBegins;
        long allEnds;
        int heat;
        final int[] supplies = new int[DIVISIONS];
        final int[] winds = new int[DIVISIONS];
        final int[] openings = new int[DIVISIONS];
        final int[] temperings = new int[OCTAVE];
        private final int[] uses = new int[DIVISIONS];
        private final int[] ways = new int[ALL_PLACES];
        private boolean isWaiting;

        Works() {
            Arrays.fill(supplies, 50);
            Arrays.fill(winds, FULL_WIND);
            Arrays.fill(openings, FULL_BOX);
        }

        Rank rankAt(int number) {
            return number < 0 || number >= ranks.size() ? null : ranks.get(number);
        }

        Pipe pipeAt(int number, int note) {
            Rank rank = number < 0 || number >= ranks.size() ? null : ranks.get(number);
            return rank == null ? null : rank.pipeOf(note);
        }

        /** Lets all follow that an act or a tick brings. */
        void settle() {
            console.findRelays(keys);
            forgetReasons();
            if (keys.isAnyPressed()) {
                findWays();
                findReasons();
            }
            movePallets();
            findWinds();
            findSpeech();
        }

        void passTicks(int ticks) {
            for (int i = 0; i < ticks; i++) {
                now++;
                // only keys that went down just now give other reasons at the next tick
                if (isWaiting || keys.lastPressedAt == now - 1) {
                    settle();
                } else {
                    passIdly();
                }
            }
        }

        /** Pallets stay where they are: only tremulants can change speech. */
        private void passIdly() {
            int before = windless();
            findWinds();
            if (windless() != before) {
                findSpeech();
            }
        }

        private int windless() {
            int set = 0;
            for (int division = 0; division < DIVISIONS; division++) {
                if (winds[division] == 0) {
                    set |= 1 << division;
                }
            }
            return set;
        }

        private void forgetReasons() {
            for (int i = 0; i < ranks.size(); i++) {
                for (Pipe pipe : ranks.get(i).pipes) {
                    pipe.found = 0;
                }
            }
        }

        /** By how many ways each key plays. */
        private void findWays() {
            Arrays.fill(ways, 0);
            for (int i = 0; i < console.knobs.size(); i++) {
                Knob knob = console.knobs.get(i);
                Coupler coupler = knob.coupler;
                for (int key = 0; coupler != null && console.isWay(knob) && key < MANUAL_KEYS; key++) {
                    int index = Keys.indexOf(coupler.to, key + coupler.shift);
                    if (index >= 0 && coupler.takes(key, keys, now)) {
                        ways[index]++;
                    }
                }
            }
        }

        private void findReasons() {
            for (int i = 0; i < console.knobs.size(); i++) {
                Knob knob = console.knobs.get(i);
                if (knob.stop != null && console.isSounding(knob)) {
                    addReasons(knob.stop, knob.division);
                }
            }
        }

        private void addReasons(Stop stop, int division) {
            for (int key = 0; key < Keys.countOf(division); key++) {
                int index = Keys.indexOf(division, key);
                int count = index < 0 ? 0 : ways[index];
                for (int row = 0; count > 0 && row < stop.rows; row++) {
                    Pipe pipe = pipeAt(stop.rankOf(row), stop.noteOf(row, key));
                    if (pipe != null) {
                        pipe.found += count;
                    }
                }
            }
        }

        /** The reasons of one pipe, without those that were found for all. */
        int reasonsAlone(int rank, int note) {
            Pipe pipe = pipeAt(rank, note);
            int count = pipe != null && pipe.isHeld ? 1 : 0;
            for (int i = 0; i < console.knobs.size(); i++) {
                Knob knob = console.knobs.get(i);
                Stop stop = knob.stop;
                for (int row = 0; stop != null && row < stop.rows; row++) {
                    int key = stop.rankOf(row) == rank ? stop.keyOf(row, note) : -1;
                    if (Keys.indexOf(knob.division, key) >= 0 && console.isSounding(knob)) {
                        count += console.waysOf(knob.division, key, keys, now);
                    }
                }
            }
            return count;
        }

        private void movePallets() {
            isWaiting = false;
            Arrays.fill(uses, 0);
            for (int i = 0; i < ranks.size(); i++) {
                Rank rank = ranks.get(i);
                for (int at = 0; at < rank.pipes.length; at++) {
                    Pipe pipe = rank.pipes[at];
                    boolean isWanted = pipe.allReasons() > 0;
                    if (pipe.isWanted != isWanted) {
                        pipe.isWanted = isWanted;
                        pipe.changedAt = now;
                        tape.keepPipe(i, rank.lowest + at, isWanted, now);
                    }
                    pipe.movePallet(now, rank.delay, rank.rest);
                    isWaiting = isWaiting || pipe.isOpened != isWanted;
                    uses[rank.division] += pipe.isBlown() ? rank.use : 0;
                }
            }
        }

        private void findWinds() {
            for (int division = 0; division < DIVISIONS; division++) {
                int excess = Math.max(0, uses[division] - supplies[division]);
                int wind = FULL_WIND - (excess + 1) / 2;
                if (now % 4 >= 2 && console.trembles(division)) {
                    wind -= 10;
                }
                winds[division] = Math.max(0, wind);
            }
        }

        private void findSpeech() {
            speakers = 0;
            for (int i = 0; i < ranks.size(); i++) {
                Rank rank = ranks.get(i);
                boolean hasWind = winds[rank.division] > 0;
                for (Pipe pipe : rank.pipes) {
                    boolean isSpeaking = hasWind && pipe.isBlown();
                    if (isSpeaking && !pipe.isSpeaking) {
                        pipe.begins++;
                        allBegins++;
                    } else if (!isSpeaking && pipe.isSpeaking) {
                        pipe.ends++;
                        allEnds++;
                    }
                    pipe.isSpeaking = isSpeaking;
                    speakers += isSpeaking ? 1 : 0;
                }
            }
        }

        /** Moves a key without letting anything follow, as an act may move several. */
        void pressKey(int division, int key, boolean isPressed) {
            if (keys.put(division, key, isPressed, now)) {
                tape.keepKey(division, key, isPressed, now);
            }
        }

        int releaseAll() {
            int count = 0;
            for (int division = 0; division < DIVISIONS; division++) {
                for (int key = 0; key < Keys.countOf(division); key++) {
                    if (keys.isPressed(division, key)) {
                        pressKey(division, key, false);
                        count++;
                    }
                }
            }
            settle();
            return count;
        }

        void pressChord(Continuo continuo) {
            for (int division = 0; division <= 1; division++) {
                for (int key = 0; key < Keys.countOf(division); key++) {
                    if (!continuo.isOfChord(division, key)) {
                        pressKey(division, key, false);
                    }
                }
            }
            for (int voice = 0; voice < Continuo.VOICES; voice++) {
                pressKey(voice == 0 ? 0 : 1, continuo.keyOf(voice), true);
            }
            settle();
        }

        void hold(int rank, int note, boolean isHeld) {
            Pipe pipe = pipeAt(rank, note);
            if (pipe != null) {
                pipe.isHeld = isHeld;
            }
        }

        void holdNone() {
            for (int i = 0; i < ranks.size(); i++) {
                for (Pipe pipe : ranks.get(i).pipes) {
                    pipe.isHeld = false;
                }
            }
            settle();
        }

        int pitchOf(int number, int note) {
            Rank rank = rankAt(number);
            Pipe pipe = pipeAt(number, note);
            if (rank == null || pipe == null || note < 0) {
                return 0;
            }
            int lacking = FULL_WIND - winds[rank.division];
            return 100 * note + temperings[note % OCTAVE] + pipe.tuning + heat * rank.heatNumber / 10 - lacking / 10;
        }

        int sumOfPitches() {
            int sum = 0;
            for (int i = 0; i < ranks.size(); i++) {
                Rank rank = ranks.get(i);
                for (int at = 0; at < rank.pipes.length; at++) {
                    sum += rank.pipes[at].isSpeaking ? pitchOf(i, rank.lowest + at) : 0;
                }
            }
            return sum;
        }

        int allLoudness() {
            int sum = 0;
            for (int i = 0; i < ranks.size(); i++) {
                Rank rank = ranks.get(i);
                int loudness = rank.power * openings[rank.division] / FULL_BOX;
                for (Pipe pipe : rank.pipes) {
                    sum += pipe.isSpeaking ? loudness : 0;
                }
            }
            return sum;
        }

        int allPipes() {
            int count = 0;
            for (int i = 0; i < ranks.size(); i++) {
                count += ranks.get(i).pipes.length;
            }
            return count;
        }

        boolean isConsistent() {
            for (int i = 0; i < ranks.size(); i++) {
                Rank rank = ranks.get(i);
                for (int at = 0; at < rank.pipes.length; at++) {
                    Pipe pipe = rank.pipes[at];
                    int speech = pipe.isSpeaking ? 1 : 0;
                    if (pipe.begins != pipe.ends + speech
                            || pipe.allReasons() != reasonsAlone(i, rank.lowest + at)) {
                        return false;
                    }
                }
            }
            return true;
        }
    }

    /** What guests keep: pistons and reversibles by levels, and frames. */
    private static final class Memory {
        static final int GUESTS = 4;
        static final int LEVELS = 4;
        static final int GENERALS = 8;
        static final int REVERSIBLES = 4;
        static final int MOST_FRAMES = 20;
        private static final int DIVISIONALS = 4;
        private static final int PISTONS = GENERALS + DIVISIONS * DIVISIONALS;
        // both are indices below, so nothing else may change them
        private int guest;
        private int level;
        int next;
        private final boolean[] isSet = new boolean[LEVELS * PISTONS];
        private final long[] kept = new long[LEVELS * PISTONS];
        private final long[] drawn = new long[LEVELS * PISTONS];
        private final int[] reversibles = new int[LEVELS * REVERSIBLES];
        private final int[] owners = new int[LEVELS];
        private final int[] frameCounts = new int[GUESTS];
        private final long[] frameKept = new long[GUESTS * MOST_FRAMES];
        private final long[] frameDrawn = new long[GUESTS * MOST_FRAMES];

        Memory() {
            Arrays.fill(reversibles, -1);
            Arrays.fill(owners, -1);
        }

        int changeGuest(int newGuest) {
            int before = guest;
            guest = newGuest < 0 || newGuest >= GUESTS ? guest : newGuest;
            return before;
        }

        int changeLevel(int newLevel) {
            int before = level;
            level = newLevel < 0 || newLevel >= LEVELS ? level : newLevel;
            return before;
        }

        boolean isClaimed() {
            return owners[level] >= 0;
        }

        boolean isClaimedByAnother() {
            return isClaimed() && owners[level] != guest;
        }

        void putClaim(boolean isClaimed) {
            owners[level] = isClaimed ? guest : -1;
        }

        /** The place of a piston among those of a level, -1 if there is no such piston. */
        static int placeOf(int division, int piston) {
            if (division == -1) {
                return piston >= 0 && piston < GENERALS ? piston : -1;
            }
            boolean isThere = isDivision(division) && piston >= 0 && piston < DIVISIONALS;
            return isThere ? GENERALS + division * DIVISIONALS + piston : -1;
        }

        private int indexOf(int place) {
            return place < 0 || place >= PISTONS ? -1 : level * PISTONS + place;
        }

        void keep(int place, long knobs, long drawnKnobs) {
            int index = indexOf(place);
            if (index >= 0) {
                isSet[index] = true;
                kept[index] = knobs;
                drawn[index] = drawnKnobs;
            }
        }

        boolean isKept(int place) {
            int index = indexOf(place);
            return index >= 0 && isSet[index];
        }

        long keptBy(int place) {
            int index = indexOf(place);
            return index < 0 ? 0L : kept[index];
        }

        long drawnBy(int place) {
            int index = indexOf(place);
            return index < 0 ? 0L : drawn[index];
        }

        int reversibleKnob(int reversible) {
            boolean isThere = reversible >= 0 && reversible < REVERSIBLES;
            return isThere ? reversibles[level * REVERSIBLES + reversible] : -1;
        }

        void keepReversible(int reversible, int knob) {
            if (reversible >= 0 && reversible < REVERSIBLES) {
                reversibles[level * REVERSIBLES + reversible] = knob;
            }
        }

        int frames() {
            return frameCounts[guest];
        }

        void insertFrame(int at, long knobs, long drawnKnobs) {
            int count = frames();
            if (at < 0 || at > count || count >= MOST_FRAMES) {
                return;
            }
            int index = guest * MOST_FRAMES + at;
            System.arraycopy(frameKept, index, frameKept, index + 1, count - at);
            System.arraycopy(frameDrawn, index, frameDrawn, index + 1, count - at);
            frameKept[index] = knobs;
            frameDrawn[index] = drawnKnobs;
            frameCounts[guest]++;
        }

        void removeFrame(int at) {
            int count = frames();
            if (at < 0 || at >= count) {
                return;
            }
            int index = guest * MOST_FRAMES + at;
            System.arraycopy(frameKept, index + 1, frameKept, index, count - at - 1);
            System.arraycopy(frameDrawn, index + 1, frameDrawn, index, count - at - 1);
            frameCounts[guest]--;
        }

        long keptByFrame(int at) {
            return at < 0 || at >= frames() ? 0L : frameKept[guest * MOST_FRAMES + at];
        }

        long drawnByFrame(int at) {
            return at < 0 || at >= frames() ? 0L : frameDrawn[guest * MOST_FRAMES + at];
        }
    }

    /** What was recorded: keys or pipes, each in one number with its tick, as there can be very many. */
    private static final class Tape {
        private static final int FIRST_ROOM = 256;
        private static final int MOST = 1 << 20;
        private static final int CODES = MOST_RANKS * NOTES;
        char recording = '-';
        char kind = '-';
        int size;
        private int startedAt;
        private int[] entries = new int[FIRST_ROOM];

        void start(char what, int now) {
            recording = what;
            kind = what;
            size = 0;
            startedAt = now;
        }

        void keepKey(int division, int key, boolean isOn, int now) {
            if (recording == 'k') {
                keepEntry(division * NOTES + key, isOn, now);
            }
        }

        void keepPipe(int rank, int note, boolean isOn, int now) {
            if (recording == 'r') {
                keepEntry(rank * NOTES + note, isOn, now);
            }
        }

        private void keepEntry(int code, boolean isOn, int now) {
            if (size >= MOST) {
                return;
            }
            if (size >= entries.length) {
                entries = Arrays.copyOf(entries, 2 * entries.length);
            }
            entries[size] = ((now - startedAt) * CODES + code) * 2 + (isOn ? 1 : 0);
            size++;
        }

        private int entryAt(int index) {
            return index < 0 || index >= size || index >= entries.length ? 0 : entries[index];
        }

        /** The division or the rank. */
        int highCodeAt(int index) {
            return entryAt(index) / 2 % CODES / NOTES;
        }

        /** The key or the note. */
        int lowCodeAt(int index) {
            return entryAt(index) / 2 % NOTES;
        }

        boolean isOnAt(int index) {
            return entryAt(index) % 2 == 1;
        }

        int ticksBefore(int index) {
            return index <= 0 ? 0 : entryAt(index) / 2 / CODES - entryAt(index - 1) / 2 / CODES;
        }
    }

    /** The scale, the last chord, and the search for the next one. */
    private static final class Continuo {
        static final int VOICES = 4;
        private static final int LOWEST = 12;
        private static final int HIGHEST = 48;
        private static final int[] MAJOR = {0, 2, 4, 5, 7, 9, 11};
        private static final int[] MINOR = {0, 2, 3, 5, 7, 8, 10};
        private static final int[] FIFTH = {0, 2, 4};
        private static final int[] SIXTH = {0, 2, 5};
        private static final int[] FOURTH = {0, 3, 5};
        private static final int[] SEVENTH = {2, 4, 6};
        private static final int[] NONE = {};
        private static final int ABOVE_ALL = 1000000;
        int tonic;
        private boolean isMajor = true;
        private boolean hasChord;
        // voices are told by their notes, the bass first
        private final int[] chord = new int[VOICES];
        private final int[] trial = new int[VOICES];
        private final int[] best = new int[VOICES];
        private int bestBad;
        private int bestWay;

        void begin(int newTonic, boolean isOfMajor) {
            tonic = newTonic;
            isMajor = isOfMajor;
            hasChord = false;
        }

        static int[] stepsOf(char figure) {
            if (figure == '5') {
                return FIFTH;
            }
            if (figure == '6') {
                return SIXTH;
            }
            if (figure == '4') {
                return FOURTH;
            }
            return figure == '7' ? SEVENTH : NONE;
        }

        /** The place of a key in the scale, -1 if it is not of the scale. */
        int degreeOf(int key) {
            int[] scale = isMajor ? MAJOR : MINOR;
            for (int degree = 0; degree < scale.length; degree++) {
                if ((tonic + scale[degree]) % OCTAVE == key % OCTAVE) {
                    return degree;
                }
            }
            return -1;
        }

        /** Finds the best keys above a bass of the scale, and makes them the last chord. */
        int choose(int bass, int[] steps) {
            int degree = degreeOf(bass);
            trial[0] = FIRST_NOTE + bass;
            bestBad = ABOVE_ALL;
            bestWay = ABOVE_ALL;
            for (int first = LOWEST; first <= HIGHEST; first++) {
                int top = Math.min(HIGHEST, first + OCTAVE);
                for (int second = first + 1; second < top && asks(degree, steps, first); second++) {
                    for (int third = second + 1; third <= top && asks(degree, steps, second); third++) {
                        if (asks(degree, steps, third) && areApart(first, second, third)) {
                            weigh(first, second, third);
                        }
                    }
                }
            }
            System.arraycopy(best, 0, chord, 0, VOICES);
            hasChord = true;
            return bestBad;
        }

        private boolean asks(int degree, int[] steps, int key) {
            int found = degreeOf(key);
            if (found < 0) {
                return false;
            }
            for (int step : steps) {
                if ((degree + step) % MAJOR.length == found) {
                    return true;
                }
            }
            return false;
        }

        private static boolean areApart(int first, int second, int third) {
            return (second - first) % OCTAVE != 0 && (third - second) % OCTAVE != 0 && (third - first) % OCTAVE != 0;
        }

        /** Takes a chord if it is better than the best one, which had lower keys. */
        private void weigh(int first, int second, int third) {
            trial[1] = FIRST_NOTE + first;
            trial[2] = FIRST_NOTE + second;
            trial[3] = FIRST_NOTE + third;
            int bad = badSteps();
            int way = way(first, 1, 24) + way(second, 2, 28) + way(third, 3, 31);
            if (bad < bestBad || (bad == bestBad && way < bestWay)) {
                bestBad = bad;
                bestWay = way;
                System.arraycopy(trial, 0, best, 0, VOICES);
            }
        }

        private int way(int key, int voice, int atFirst) {
            return Math.abs(key - (hasChord ? keyOf(voice) : atFirst));
        }

        private int badSteps() {
            int count = 0;
            for (int low = 0; hasChord && low < VOICES; low++) {
                for (int high = low + 1; high < VOICES; high++) {
                    count += isBadStep(low, high) ? 1 : 0;
                }
            }
            return count;
        }

        private boolean isBadStep(int voice, int other) {
            int before = Math.abs(chord[voice] - chord[other]);
            int after = Math.abs(trial[voice] - trial[other]);
            boolean isPerfect = before % OCTAVE == 7 || (before > 0 && before % OCTAVE == 0);
            boolean isAgain = after > 0 && after % OCTAVE == before % OCTAVE;
            return isPerfect && isAgain && trial[voice] != chord[voice] && trial[other] != chord[other];
        }

        int keyOf(int voice) {
            return voice < 0 || voice >= VOICES ? -1 : chord[voice] - FIRST_NOTE;
        }

        boolean isOfChord(int division, int key) {
            if (division == 0) {
                return key == keyOf(0);
            }
            return key == keyOf(1) || key == keyOf(2) || key == keyOf(3);
        }
    }
}

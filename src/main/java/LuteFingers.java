import java.util.Arrays;

/** Music set for the courses of a lute and for one hand; ../shared/DOC.md tells every promise. */
public final class LuteFingers {
    public static final int NONE = -1, BAD = -2, STATE = -3, FULL = -4;

    private static final int COURSES = 6, TOP_TUNE = 99, TOP_FRET = 12;
    private static final int FINGERS = 4, TOP_SLACK = 2;
    private static final int STRETCH = 0, FINGER = 1, BAR = 2, SHIFT = 3, CROSSING = 4;
    private static final int WEIGHTS = 5, TOP_WEIGHT = 9;
    private static final int TICKS = 16, NOTES = 4, TOP_PITCH = 120, TOP_PRICE = 100;
    private static final int PLAIN = 0, HELD = 1, SLUR = 2, OPEN = 3;
    private static final int GRIPS = 32, PLACES = 13;
    private static final int WAYS = 8, TUNINGS = 4, BYTES = 600;

    /** Answers that tell a place are this less the place, so that no refusal looks like one. */
    private static final int PLACE_TOLD = -10;
    private static final int BEHIND_LAST = 16;

    /** All sets of notes but the empty one, in the order in which why() wants them. */
    private static final int[] SETS = {1, 2, 4, 8, 3, 5, 6, 9, 10, 12, 7, 11, 13, 14, 15};

    private final Lute lute = new Lute();
    private final Piece piece = new Piece();
    private final Tape signs = new Tape();
    private final GripSearch gripSearch = new GripSearch(lute, piece);
    private final GripBook book = new GripBook(piece, gripSearch);
    /** Grips of other tunings or of fewer notes, so that those of the piece stay in the book. */
    private final GripBook otherBook = new GripBook(piece, gripSearch);
    private final WaySearch waySearch = new WaySearch(lute, piece);
    private final WayList ways = new WayList();
    private final int[] row = new int[TICKS];
    private int rowSize = 0;
    /** Both are made by the first call that wants them: many objects never do. */
    private Arranger arranger = null;
    private Piece readPiece = null;
    private boolean arranged = false;
    private int leftPrice = 0;
    private int restCost = 0;

    public LuteFingers() {
    }

    // ---- the instrument

    public int course(int tune, int frets) {
        if (!within(tune, TOP_TUNE) || !within(frets, TOP_FRET)) return BAD;
        if (piece.ticks > 0) return STATE;
        if (lute.courses >= COURSES) return FULL;
        instrumentChanged();
        return lute.addCourse(tune, frets);
    }

    public int tune(int course, int pitch) {
        if (!lute.hasCourse(course)) return NONE;
        if (!within(pitch, TOP_TUNE)) return BAD;
        instrumentChanged();
        return exchange(lute.tunes, course, pitch);
    }

    public int slack(int finger, int s) {
        if (finger < 1 || finger > FINGERS) return NONE;
        if (!within(s, TOP_SLACK)) return BAD;
        instrumentChanged();
        return exchange(lute.slacks, finger, s);
    }

    public int bars(int may) {
        if (!within(may, 1)) return BAD;
        instrumentChanged();
        int before = lute.barsMay ? 1 : 0;
        lute.barsMay = may == 1;
        return before;
    }

    public int weight(int what, int w) {
        if (!within(what, WEIGHTS - 1)) return NONE;
        if (!within(w, TOP_WEIGHT)) return BAD;
        instrumentChanged();
        return exchange(lute.weights, what, w);
    }

    // ---- the piece

    public int note(int pitch, int kind, int price) {
        if (!within(pitch, TOP_PITCH) || !within(kind, OPEN) || !within(price, TOP_PRICE)) return BAD;
        if (piece.noteOfPitch(piece.ticks, pitch) != NONE) return BAD;
        int fore = piece.foreOf(pitch, kind);
        if (Piece.isTied(kind) && fore == NONE) return STATE;
        if (piece.sizes[piece.ticks] >= NOTES) return FULL;
        return piece.addNote(pitch, kind, price, fore, NONE);
    }

    public int tick() {
        if (lute.courses == 0) return STATE;
        if (piece.ticks >= TICKS) return FULL;
        forgetAnswers();
        int number = piece.closeTick();
        book.forget(number);
        return number;
    }

    public int clear() {
        forgetAnswers();
        int before = piece.ticks;
        piece.removeAll();
        book.forgetAll();
        return before;
    }

    public int fix(int tick, int note, int course) {
        if (!piece.hasNote(tick, note)) return NONE;
        if (course != NONE && !lute.hasCourse(course)) return NONE;
        forgetAnswers();
        book.forget(tick);
        return exchange(piece.fixed, tick * NOTES + note, course) + 1;
    }

    public int told(int tick, int note, int what) {
        if (!piece.hasNote(tick, note)) return NONE;
        int i = tick * NOTES + note;
        switch (what) {
            case 0: return piece.pitches[i];
            case 1: return piece.kinds[i];
            case 2: return piece.prices[i];
            case 3: return piece.fores[i];
            case 4: return piece.fixed[i];
            default: return NONE;
        }
    }

    // ---- grips

    public int grips(int tick) {
        if (!piece.hasTick(tick)) return NONE;
        book.keep(tick);
        return book.isSpent(tick) ? STATE : book.size(tick);
    }

    public int grip(int tick, int i, int note, int what) {
        if (!piece.hasTick(tick)) return NONE;
        book.keep(tick);
        if (i < 0 || i >= book.size(tick)) return NONE;
        long grip = book.get(tick, i);
        if (note == NONE) return Grip.ofAll(grip, what);
        return piece.hasNote(tick, note) ? Grip.ofNote(grip, note, what) : NONE;
    }

    public int why(int tick) {
        if (!piece.hasTick(tick)) return NONE;
        int all = piece.allNotes(tick);
        if (hasGrip(tick, all)) return 0;
        for (int set : SETS) {
            if (set <= all && !hasGrip(tick, set)) return set;
        }
        return 0;
    }

    // ---- ways

    public int way() {
        if (piece.ticks == 0) return STATE;
        if (!ways.atHand()) {
            book.keepAll();
            int broken = waySearch.lookThrough(book);
            if (broken != NONE) return PLACE_TOLD - broken;
            takeWays(1);
        }
        ways.which = 0;
        return ways.costs[0];
    }

    public int next() {
        if (!ways.atHand() || ways.which >= WAYS - 1) return STATE;
        if (!ways.complete) {
            book.keepAll();
            if (waySearch.lookThrough(book) != NONE) return NONE;
            takeWays(WAYS);
            ways.complete = true;
        }
        if (ways.which + 1 >= ways.known) return NONE;
        ways.which++;
        return ways.costs[ways.which];
    }

    public int at(int tick) {
        if (!piece.hasTick(tick) || !ways.atHand()) return NONE;
        return ways.numbers[ways.start() + tick];
    }

    public int rank(int n) {
        if (!ways.atHand()) return STATE;
        if (n < 1 || n > piece.ticks) return BAD;
        book.keepAll();
        int most = 0;
        for (int from = 0; from + n <= piece.ticks; from++) {
            most = Math.max(most, waySearch.costOfSpan(book, ways.numbers, ways.start(), from, from + n));
        }
        return most;
    }

    public int say(int grip) {
        if (grip < 0) return BAD;
        if (rowSize >= TICKS) return FULL;
        row[rowSize] = grip;
        rowSize++;
        return rowSize;
    }

    public int check() {
        if (piece.ticks == 0) return STATE;
        int said = rowSize;
        rowSize = 0;
        book.keepAll();
        for (int t = 0; t < piece.ticks; t++) {
            if (t >= said || !goesOn(t)) return PLACE_TOLD - t;
        }
        if (said > piece.ticks) return PLACE_TOLD - BEHIND_LAST;
        return waySearch.costOfSpan(book, row, 0, 0, piece.ticks);
    }

    // ---- arranging, tunings

    public int arrange() {
        if (piece.ticks == 0) return STATE;
        if (arranged) return leftPrice;
        if (arranger == null) arranger = new Arranger(piece, gripSearch);
        if (!arranger.listGrips()) return STATE;
        leftPrice = arranger.chooseLeft();
        for (int t = 0; t < piece.ticks; t++) {
            otherBook.list(t, piece.allNotes(t) ^ arranger.leftMasks[t]);
        }
        restCost = firstCost(otherBook);
        arranged = true;
        return leftPrice;
    }

    public int left(int tick) {
        if (!arranged || arranger == null || !piece.hasTick(tick)) return NONE;
        return arranger.leftMasks[tick];
    }

    public int rest() {
        return arranged ? restCost : NONE;
    }

    public int tuning(int k, int course, int pitch) {
        if (!within(k, TUNINGS - 1) || !lute.hasCourse(course)) return NONE;
        if (!within(pitch, TOP_TUNE)) return BAD;
        return exchange(lute.tunings, k * COURSES + course, pitch);
    }

    public int choose() {
        if (piece.ticks == 0) return STATE;
        int chosen = NONE;
        int least = 0;
        for (int k = 0; k < TUNINGS; k++) {
            int cost = costWithTuning(k);
            if (cost != NONE && (chosen == NONE || cost < least)) {
                chosen = k;
                least = cost;
            }
        }
        return chosen;
    }

    // ---- signs

    public int feed(int b) {
        if (!within(b, 255)) return BAD;
        if (signs.length >= BYTES) return FULL;
        signs.append(b);
        return signs.length;
    }

    public int wipe() {
        int before = signs.length;
        signs.length = 0;
        return before;
    }

    public int tape(int i) {
        return i >= 0 && i < signs.length ? signs.bytes[i] : NONE;
    }

    public int write() {
        if (!ways.atHand()) return STATE;
        book.keepAll();
        signs.length = 0;
        for (int t = 0; t < piece.ticks; t++) {
            signs.appendLine(book.get(t, ways.numbers[ways.start() + t]), lute.courses);
        }
        return signs.length;
    }

    public int read() {
        if (lute.courses == 0) return STATE;
        if (readPiece == null) readPiece = new Piece();
        int fault = new TapeReader(signs, lute, readPiece).findFault();
        signs.length = 0;
        // A fault is none of the four refusals, so it too ends what way() and arrange() told.
        forgetAnswers();
        if (fault != NONE) return PLACE_TOLD - fault;
        piece.copyFrom(readPiece);
        book.forgetAll();
        return piece.ticks;
    }

    public int count(int what) {
        switch (what) {
            case 0: return lute.courses;
            case 1: return piece.ticks;
            case 2: return piece.notesOfTicks();
            case 3: return piece.sizes[piece.ticks];
            case 4: return ways.atHand() ? 1 : 0;
            case 5: return ways.which;
            default: return NONE;
        }
    }

    // ---- what several calls share

    private static boolean within(int number, int top) {
        return number >= 0 && number <= top;
    }

    private static int exchange(int[] numbers, int i, int number) {
        int before = numbers[i];
        numbers[i] = number;
        return before;
    }

    private void instrumentChanged() {
        forgetAnswers();
        book.forgetAll();
    }

    private void forgetAnswers() {
        ways.drop();
        arranged = false;
    }

    private boolean hasGrip(int tick, int noteSet) {
        return gripSearch.search(tick, noteSet, null, 0, 0) > 0;
    }

    private void takeWays(int most) {
        ways.known = waySearch.findBest(most);
        for (int i = 0; i < ways.known; i++) {
            ways.costs[i] = waySearch.trace(i, ways.numbers, i * TICKS);
        }
    }

    private boolean goesOn(int tick) {
        if (row[tick] >= book.size(tick)) return false;
        if (tick == 0) return true;
        long grip = book.get(tick, row[tick]);
        long ahead = book.get(tick - 1, row[tick - 1]);
        return (ahead & piece.tieMask(tick, grip)) == piece.tieBits(tick, grip);
    }

    private int costWithTuning(int k) {
        lute.swapTuning(k);
        for (int t = 0; t < piece.ticks; t++) otherBook.list(t, piece.allNotes(t));
        int cost = firstCost(otherBook);
        lute.swapTuning(k);
        return cost;
    }

    private int firstCost(GripBook grips) {
        if (waySearch.lookThrough(grips) != NONE) return NONE;
        return waySearch.findBest(1) > 0 ? waySearch.headCost(0) : NONE;
    }

    /** The courses and what is told of the hand. */
    private static final class Lute {
        private int courses = 0;
        private boolean barsMay = false;
        private final int[] tunes = new int[COURSES];
        private final int[] frets = new int[COURSES];
        private final int[] slacks = new int[FINGERS + 1];
        private final int[] weights = new int[WEIGHTS];
        private final int[] tunings = new int[TUNINGS * COURSES];

        private Lute() {
            Arrays.fill(slacks, 1);
            Arrays.fill(weights, 1);
        }

        private boolean hasCourse(int course) {
            return course >= 0 && course < courses;
        }

        private int addCourse(int tuneTold, int fretsTold) {
            int number = courses;
            tunes[number] = tuneTold;
            frets[number] = fretsTold;
            for (int k = 0; k < TUNINGS; k++) tunings[k * COURSES + number] = tuneTold;
            courses++;
            return number;
        }

        /** Done twice it undoes itself: so choose() leaves all as it was. */
        private void swapTuning(int k) {
            for (int c = 0; c < courses; c++) {
                tunes[c] = exchange(tunings, k * COURSES + c, tunes[c]);
            }
        }

        private int fretFor(int course, int pitch) {
            int fret = pitch - tunes[course];
            return within(fret, frets[course]) ? fret : NONE;
        }

        private boolean reaches(int finger, int place, int fret) {
            return within(fret - (place + finger - 1), slacks[finger]);
        }

        /** All places (bit h: place h) at which a note with this fret can be had. */
        private int placesFor(int fret) {
            if (fret == 0) return (1 << PLACES) - 1;
            int places = 0;
            for (int finger = 1; finger <= FINGERS; finger++) {
                for (int over = 0; over <= slacks[finger]; over++) {
                    int place = fret - over - finger + 1;
                    if (place >= 1) places |= 1 << place;
                }
            }
            return places;
        }

        /** What lies between two grips of neighbouring ticks; last: the latest place that is not 0. */
        private int stepCost(long from, long to, int last) {
            int cost = 0;
            int place = Grip.place(to);
            if (last != 0 && place != 0) cost += weights[SHIFT] * Math.abs(place - last);
            int courseFrom = Grip.leadCourse(from);
            int courseTo = Grip.leadCourse(to);
            if (courseFrom != NONE && courseTo != NONE) {
                cost += weights[CROSSING] * Math.abs(courseTo - courseFrom);
            }
            return cost;
        }
    }

    /** Ticks with their notes; the notes told for the next tick stand behind the last tick's. */
    private static final class Piece {
        /** What no bits of a grip can be. */
        private static final long IMPOSSIBLE = -1L;

        private int ticks = 0;
        private final int[] sizes = new int[TICKS + 1];
        private final int[] pitches = new int[(TICKS + 1) * NOTES];
        private final int[] kinds = new int[(TICKS + 1) * NOTES];
        private final int[] prices = new int[(TICKS + 1) * NOTES];
        private final int[] fores = new int[(TICKS + 1) * NOTES];
        private final int[] fixed = new int[(TICKS + 1) * NOTES];

        private static boolean isTied(int kind) {
            return kind == HELD || kind == SLUR;
        }

        private boolean hasTick(int tick) {
            return tick >= 0 && tick < ticks;
        }

        private boolean hasNote(int tick, int note) {
            return hasTick(tick) && note >= 0 && note < sizes[tick];
        }

        private int allNotes(int tick) {
            return (1 << sizes[tick]) - 1;
        }

        private int notesOfTicks() {
            int sum = 0;
            for (int t = 0; t < ticks; t++) sum += sizes[t];
            return sum;
        }

        private int noteOfPitch(int tick, int pitch) {
            for (int i = 0; i < sizes[tick]; i++) {
                if (pitches[tick * NOTES + i] == pitch) return i;
            }
            return NONE;
        }

        /** The fore that a note for the next tick would have. */
        private int foreOf(int pitch, int kind) {
            if (!isTied(kind) || ticks == 0) return NONE;
            if (kind == HELD) return noteOfPitch(ticks - 1, pitch);
            return sizes[ticks - 1] > 0 ? 0 : NONE;
        }

        private int addNote(int pitch, int kind, int price, int fore, int course) {
            int size = sizes[ticks];
            int i = ticks * NOTES + size;
            pitches[i] = pitch;
            kinds[i] = kind;
            prices[i] = price;
            fores[i] = fore;
            fixed[i] = course;
            sizes[ticks] = size + 1;
            return size + 1;
        }

        private int closeTick() {
            int number = ticks;
            ticks++;
            sizes[ticks] = 0;
            return number;
        }

        private void removeAll() {
            ticks = 0;
            sizes[0] = 0;
        }

        private void copyFrom(Piece other) {
            ticks = other.ticks;
            System.arraycopy(other.sizes, 0, sizes, 0, sizes.length);
            System.arraycopy(other.pitches, 0, pitches, 0, pitches.length);
            System.arraycopy(other.kinds, 0, kinds, 0, kinds.length);
            System.arraycopy(other.prices, 0, prices, 0, prices.length);
            System.arraycopy(other.fores, 0, fores, 0, fores.length);
            System.arraycopy(other.fixed, 0, fixed, 0, fixed.length);
        }

        /** The bits of the grip ahead at which the held and slurred notes of a grip look. */
        private long tieMask(int tick, long grip) {
            long mask = 0;
            for (int i = 0; i < sizes[tick]; i++) {
                int at = tick * NOTES + i;
                if (fores[at] != NONE && Grip.hasNote(grip, i)) {
                    mask |= lookedAt(kinds[at]) << (Grip.NOTE_BITS * fores[at]);
                }
            }
            return mask;
        }

        /** What these bits must be; IMPOSSIBLE if two notes ask one fore for different things. */
        private long tieBits(int tick, long grip) {
            long seen = 0;
            long bits = 0;
            for (int i = 0; i < sizes[tick]; i++) {
                int at = tick * NOTES + i;
                if (fores[at] == NONE || !Grip.hasNote(grip, i)) continue;
                int shift = Grip.NOTE_BITS * fores[at];
                long look = lookedAt(kinds[at]);
                long want = ((grip >>> (Grip.NOTE_BITS * i)) & look) << shift;
                look <<= shift;
                if ((seen & look & (bits ^ want)) != 0) return IMPOSSIBLE;
                seen |= look;
                bits |= want;
            }
            return bits;
        }

        private static long lookedAt(int kind) {
            return kind == HELD ? Grip.COURSE_MASK | Grip.FINGER_MASK : Grip.COURSE_MASK;
        }
    }

    /** A grip is one long, so that no search makes objects: ten bits a note, then the whole's. */
    private static final class Grip {
        private static final int NOTE_BITS = 10;
        /** The course is held as its number and 1: 0 says that the note is not in the grip. */
        private static final long COURSE_MASK = 7L, FINGER_MASK = 56L;
        private static final int FINGER_AT = 3, FRET_AT = 6, PLACE_AT = 40, BAR_AT = 44, COST_AT = 45;

        private static long partOf(int note, int course, int fret, int finger) {
            long part = (course + 1) | (finger << FINGER_AT) | (fret << FRET_AT);
            return part << (NOTE_BITS * note);
        }

        private static long wholeOf(int place, int bar, int cost) {
            return ((long) place << PLACE_AT) | ((long) bar << BAR_AT) | ((long) cost << COST_AT);
        }

        private static boolean hasNote(long grip, int note) {
            return (grip >>> (NOTE_BITS * note) & COURSE_MASK) != 0;
        }

        private static int courseAt(long grip, int note) {
            return (int) (grip >>> (NOTE_BITS * note) & COURSE_MASK) - 1;
        }

        private static int finger(long grip, int note) {
            return (int) (grip >>> (NOTE_BITS * note + FINGER_AT) & 7L);
        }

        private static int fret(long grip, int note) {
            return (int) (grip >>> (NOTE_BITS * note + FRET_AT) & 15L);
        }

        private static int place(long grip) {
            return (int) (grip >>> PLACE_AT & 15L);
        }

        private static int bar(long grip) {
            return (int) (grip >>> BAR_AT & 1L);
        }

        private static int cost(long grip) {
            return (int) (grip >>> COST_AT);
        }

        /** The course of the first note that the grip has. */
        private static int leadCourse(long grip) {
            for (int i = 0; i < NOTES; i++) {
                int course = (int) (grip >>> (NOTE_BITS * i) & COURSE_MASK) - 1;
                if (course != NONE) return course;
            }
            return NONE;
        }

        private static int ofNote(long grip, int note, int what) {
            switch (what) {
                case 0: return courseAt(grip, note);
                case 1: return fret(grip, note);
                case 2: return finger(grip, note);
                default: return NONE;
            }
        }

        private static int ofAll(long grip, int what) {
            switch (what) {
                case 0: return place(grip);
                case 1: return cost(grip);
                case 2: return bar(grip);
                default: return NONE;
            }
        }
    }

    /** Finds the grips of a set of notes of a tick, in their order. */
    private static final class GripSearch {
        private final Lute lute;
        private final Piece piece;
        /** Courses that a note may have: COURSES of them a note, with their frets. */
        private final int[] courses = new int[NOTES * COURSES];
        private final int[] frets = new int[NOTES * COURSES];
        private final int[] choices = new int[NOTES];
        private int notes = 0;
        private int set = 0;
        private int place = 0;
        private int most = 0;
        private int found = 0;
        private int from = 0;
        private long[] out = null;

        private GripSearch(Lute lute, Piece piece) {
            this.lute = lute;
            this.piece = piece;
        }

        /** Lists up to most grips from into[start] on and tells how many; most + 1: there are more. */
        private int search(int tick, int noteSet, long[] into, int start, int atMost) {
            out = into;
            from = start;
            most = atMost;
            found = 0;
            set = noteSet;
            notes = piece.sizes[tick];
            int places = (1 << PLACES) - 1;
            for (int i = 0; i < notes; i++) {
                if (isIn(i)) places &= gatherChoices(tick, i);
            }
            for (int h = 0; h < PLACES; h++) {
                place = h;
                if ((places >> h & 1) != 0) layNote(0, 0L, 0);
            }
            return found;
        }

        private boolean isIn(int note) {
            return (set >> note & 1) != 0;
        }

        /** Tells the places at which the note can be had at all: most need no search then. */
        private int gatherChoices(int tick, int note) {
            int at = tick * NOTES + note;
            int places = 0;
            choices[note] = 0;
            for (int c = 0; c < lute.courses; c++) {
                int fret = lute.fretFor(c, piece.pitches[at]);
                if (fret == NONE || (piece.kinds[at] == OPEN && fret != 0)) continue;
                if (piece.fixed[at] != NONE && piece.fixed[at] != c) continue;
                courses[note * COURSES + choices[note]] = c;
                frets[note * COURSES + choices[note]] = fret;
                choices[note]++;
                places |= lute.placesFor(fret);
            }
            return places;
        }

        /** Goes at most NOTES deep: the note's number is the depth. */
        private void layNote(int note, long grip, int taken) {
            if (found > most) return;
            if (note >= notes || note >= NOTES) {
                takeGrip(grip);
            } else if (!isIn(note)) {
                layNote(note + 1, grip, taken);
            } else {
                for (int k = note * COURSES; k < note * COURSES + choices[note]; k++) {
                    int bit = 1 << courses[k];
                    if ((taken & bit) == 0) layOn(note, k, grip, taken | bit);
                }
            }
        }

        private void layOn(int note, int choice, long grip, int taken) {
            int course = courses[choice];
            int fret = frets[choice];
            if (fret == 0) {
                layNote(note + 1, grip | Grip.partOf(note, course, 0, 0), taken);
                return;
            }
            if (place == 0) return;
            for (int finger = 1; finger <= FINGERS; finger++) {
                if (lute.reaches(finger, place, fret) && agrees(note, grip, course, fret, finger)) {
                    layNote(note + 1, grip | Grip.partOf(note, course, fret, finger), taken);
                }
            }
        }

        /** Whether a finger may be there beside those of the notes below this one. */
        private boolean agrees(int note, long grip, int course, int fret, int finger) {
            for (int i = 0; i < note; i++) {
                int other = Grip.finger(grip, i);
                if (other == 0) continue;
                int otherFret = Grip.fret(grip, i);
                int otherCourse = Grip.courseAt(grip, i);
                boolean good;
                if (other == finger) {
                    good = lute.barsMay && finger == 1 && fret == place && otherFret == place;
                } else if (other < finger) {
                    good = inOrder(otherFret, otherCourse, fret, course);
                } else {
                    good = inOrder(fret, course, otherFret, otherCourse);
                }
                if (!good) return false;
            }
            return true;
        }

        /** Whether a lower finger may have the first fret and course where a higher one has the second. */
        private static boolean inOrder(int lowFret, int lowCourse, int highFret, int highCourse) {
            return lowFret == highFret ? lowCourse > highCourse : lowFret < highFret;
        }

        private void takeGrip(long grip) {
            int used = 0;
            int bar = 0;
            int low = TOP_FRET;
            int high = 0;
            for (int i = 0; i < notes; i++) {
                int finger = Grip.finger(grip, i);
                if (finger == 0) continue;
                // One finger has several notes only as a bar.
                if ((used >> finger & 1) != 0) bar = 1;
                used |= 1 << finger;
                low = Math.min(low, Grip.fret(grip, i));
                high = Math.max(high, Grip.fret(grip, i));
            }
            // Without a finger there is place 0 alone, else the same grip would come again and again.
            if (used == 0 && place != 0) return;
            int stretch = used == 0 ? 0 : high - low;
            int cost = lute.weights[STRETCH] * stretch
                    + lute.weights[FINGER] * Integer.bitCount(used) + lute.weights[BAR] * bar;
            if (out != null && found < most) out[from + found] = grip | Grip.wholeOf(place, bar, cost);
            found++;
        }
    }

    /** Grips of each tick of a piece, kept until they may have changed. */
    private static final class GripBook {
        private static final int UNKNOWN = -1;

        private final Piece piece;
        private final GripSearch search;
        private final long[] rows = new long[TICKS * GRIPS];
        private final int[] sizes = new int[TICKS];

        private GripBook(Piece piece, GripSearch search) {
            this.piece = piece;
            this.search = search;
            Arrays.fill(sizes, UNKNOWN);
        }

        private void forget(int tick) {
            sizes[tick] = UNKNOWN;
        }

        private void forgetAll() {
            Arrays.fill(sizes, UNKNOWN);
        }

        private void list(int tick, int noteSet) {
            sizes[tick] = search.search(tick, noteSet, rows, tick * GRIPS, GRIPS);
        }

        private void keep(int tick) {
            if (sizes[tick] == UNKNOWN) list(tick, piece.allNotes(tick));
        }

        private void keepAll() {
            for (int t = 0; t < piece.ticks; t++) {
                if (sizes[t] == UNKNOWN) list(t, piece.allNotes(t));
            }
        }

        private boolean isSpent(int tick) {
            return sizes[tick] > GRIPS;
        }

        private int size(int tick) {
            return isSpent(tick) ? 0 : Math.max(0, sizes[tick]);
        }

        private long get(int tick, int i) {
            return i >= 0 && i < GRIPS ? rows[tick * GRIPS + i] : 0L;
        }
    }

    /** The ways found latest, of which one is at hand. */
    private static final class WayList {
        private final int[] numbers = new int[WAYS * TICKS];
        private final int[] costs = new int[WAYS];
        private int known = 0;
        private int which = NONE;
        /** Whether all ways that next() can come to are known, or the first one alone. */
        private boolean complete = false;

        private void drop() {
            known = 0;
            which = NONE;
            complete = false;
        }

        private boolean atHand() {
            return which != NONE;
        }

        private int start() {
            return which == NONE ? 0 : which * TICKS;
        }
    }

    /**
     * Finds the first ways. From the last tick back, for each grip and each place that the hand had
     * last, the table has the least entries for the rest of the way: its cost, the next grip and
     * which entry of that goes on, in one int, so that entries are ordered as ways are.
     */
    private static final class WaySearch {
        /** Six courses give notes of different pitches at most 3 times 3 grips without a finger. */
        private static final int OPEN_GRIPS = 9;
        private static final int SLOTS = GRIPS + OPEN_GRIPS * PLACES;
        private static final int COST_AT = 8, GRIP_AT = 3, ENTRY_MASK = 7;
        private static final int NOTHING = 0x7fffffff;

        private final Lute lute;
        private final Piece piece;
        private GripBook book = null;
        /** For each tick and grip a bit for each grip that may follow it. */
        private final int[] followers = new int[TICKS * GRIPS];
        /** For each tick a bit for each grip to which there is a way from tick 0. */
        private final int[] alive = new int[TICKS];
        /** For each tick a bit for each place that the hand may have had last ahead of it. */
        private final int[] places = new int[TICKS];
        private int[] table = new int[TICKS * SLOTS + 1];
        private int depth = 1;

        private WaySearch(Lute lute, Piece piece) {
            this.lute = lute;
            this.piece = piece;
        }

        /** Tells the break, or NONE if there is a way. */
        private int lookThrough(GripBook grips) {
            book = grips;
            for (int t = 0; t < piece.ticks; t++) {
                alive[t] = t == 0 ? allGrips(0) : joinTicks(t);
                if (alive[t] == 0) return t;
                places[t] = t == 0 ? 1 : placesBehind(t - 1);
            }
            return NONE;
        }

        private int allGrips(int tick) {
            int size = book.size(tick);
            return size >= GRIPS ? -1 : (1 << size) - 1;
        }

        private int joinTicks(int tick) {
            int ahead = (tick - 1) * GRIPS;
            int reached = 0;
            Arrays.fill(followers, ahead, ahead + GRIPS, 0);
            for (int i = 0; i < book.size(tick); i++) {
                long grip = book.get(tick, i);
                long mask = piece.tieMask(tick, grip);
                long bits = piece.tieBits(tick, grip);
                for (int j = 0; j < book.size(tick - 1); j++) {
                    if (!isAlive(tick - 1, j) || (book.get(tick - 1, j) & mask) != bits) continue;
                    followers[ahead + j] |= 1 << i;
                    reached |= 1 << i;
                }
            }
            return reached;
        }

        private boolean isAlive(int tick, int i) {
            return (alive[tick] >> i & 1) != 0;
        }

        private int placesBehind(int tick) {
            int behind = 0;
            for (int i = 0; i < book.size(tick); i++) {
                if (!isAlive(tick, i)) continue;
                int place = Grip.place(book.get(tick, i));
                behind |= place == 0 ? places[tick] : 1 << place;
            }
            return behind;
        }

        /** Finds the first ways, up to most, behind a lookThrough() that told no break. */
        private int findBest(int most) {
            if (book == null) return 0;
            depth = Math.max(1, Math.min(most, WAYS));
            if (table.length < (TICKS * SLOTS + 1) * depth) table = new int[(TICKS * SLOTS + 1) * depth];
            for (int t = piece.ticks - 1; t >= 0; t--) fillTick(t);
            int head = head();
            Arrays.fill(table, head, head + depth, NOTHING);
            for (int i = 0; i < book.size(0); i++) {
                if (isAlive(0, i)) merge(head, i, slot(0, i, 0), 0);
            }
            int ways = 0;
            while (ways < depth && table[head + ways] != NOTHING) ways++;
            return ways;
        }

        private int head() {
            return TICKS * SLOTS * depth;
        }

        private int headCost(int i) {
            return table[head() + i] >> COST_AT;
        }

        /**
         * Where the entries of a grip begin. Only one without a place has different ones for each
         * last place; such grips come first among a tick's, so their numbers are low ones.
         */
        private int slot(int tick, int i, int last) {
            int inTick = i;
            if (Grip.place(book.get(tick, i)) == 0) {
                inTick = GRIPS + Math.min(i, OPEN_GRIPS - 1) * PLACES + last;
            }
            return (tick * SLOTS + inTick) * depth;
        }

        private void fillTick(int tick) {
            for (int i = 0; i < book.size(tick); i++) {
                if (!isAlive(tick, i)) continue;
                int place = Grip.place(book.get(tick, i));
                if (place != 0) {
                    fillSlot(tick, i, place);
                } else {
                    for (int last = 0; last < PLACES; last++) {
                        if ((places[tick] >> last & 1) != 0) fillSlot(tick, i, last);
                    }
                }
            }
        }

        private void fillSlot(int tick, int i, int last) {
            int start = slot(tick, i, last);
            long grip = book.get(tick, i);
            Arrays.fill(table, start, start + depth, NOTHING);
            if (tick == piece.ticks - 1) {
                table[start] = Grip.cost(grip) << COST_AT;
                return;
            }
            int following = followers[tick * GRIPS + i];
            for (int j = 0; j < book.size(tick + 1); j++) {
                if ((following >> j & 1) == 0) continue;
                long behind = book.get(tick + 1, j);
                int cost = Grip.cost(grip) + lute.stepCost(grip, behind, last);
                merge(start, j, slot(tick + 1, j, last), cost);
            }
        }

        /** Brings the entries of grip i, which begin at theirs, with a cost more among those at start. */
        private void merge(int start, int i, int theirs, int more) {
            for (int k = 0; k < depth; k++) {
                int entry = table[theirs + k];
                if (entry == NOTHING) return;
                int cost = (entry >> COST_AT) + more;
                if (!insert(start, cost << COST_AT | i << GRIP_AT | k)) return;
            }
        }

        private boolean insert(int start, int entry) {
            int k = start + depth - 1;
            if (entry >= table[k]) return false;
            while (k > start && table[k - 1] > entry) {
                table[k] = table[k - 1];
                k--;
            }
            table[k] = entry;
            return true;
        }

        /** Writes the numbers of the grips of way i and tells its cost. */
        private int trace(int i, int[] numbers, int start) {
            int entry = table[head() + i];
            int cost = entry >> COST_AT;
            int last = 0;
            for (int t = 0; t < piece.ticks; t++) {
                int number = entry >> GRIP_AT & (GRIPS - 1);
                int place = Grip.place(book.get(t, number));
                if (place != 0) last = place;
                numbers[start + t] = number;
                entry = table[slot(t, number, last) + (entry & ENTRY_MASK)];
            }
            return cost;
        }

        /** The cost of the ticks first to end - 1 with the grips numbered from numbers[start] on. */
        private int costOfSpan(GripBook grips, int[] numbers, int start, int first, int end) {
            int cost = 0;
            int last = 0;
            long ahead = 0;
            for (int t = first; t < end; t++) {
                long grip = grips.get(t, numbers[start + t]);
                if (t > first) cost += lute.stepCost(ahead, grip, last);
                cost += Grip.cost(grip);
                if (Grip.place(grip) != 0) last = Grip.place(grip);
                ahead = grip;
            }
            return cost;
        }
    }

    /** Finds the notes to leave. A value is a sum of prices and, below it, how many notes are left. */
    private static final class Arranger {
        private static final int NOTE_SETS = 1 << NOTES;
        private static final int PRICE_AT = 7;
        private static final int NEVER = 0x7fffffff;

        private final Piece piece;
        private final GripSearch search;
        private final long[] rows = new long[TICKS * NOTE_SETS * GRIPS];
        private final int[] sizes = new int[TICKS * NOTE_SETS];
        /** For each grip the least value of what is left from its tick on. */
        private final int[] values = new int[TICKS * NOTE_SETS * GRIPS];
        /** What the grips of a tick ask of one ahead, each thing asked once with its least value. */
        private final long[] askMasks = new long[NOTE_SETS * GRIPS];
        private final long[] askBits = new long[NOTE_SETS * GRIPS];
        private final int[] askValues = new int[NOTE_SETS * GRIPS];
        private int asks = 0;
        private final int[] leftMasks = new int[TICKS];

        private Arranger(Piece piece, GripSearch search) {
            this.piece = piece;
            this.search = search;
        }

        /** Tells false if some set of notes has too many grips. */
        private boolean listGrips() {
            for (int t = 0; t < piece.ticks; t++) {
                for (int set = 0; set <= piece.allNotes(t); set++) {
                    int at = t * NOTE_SETS + set;
                    sizes[at] = search.search(t, set, rows, at * GRIPS, GRIPS);
                    if (sizes[at] > GRIPS) return false;
                }
            }
            return true;
        }

        /** Tells the sum of prices of the notes left. */
        private int chooseLeft() {
            asks = 0;
            addAsk(0L, 0L, 0);
            for (int t = piece.ticks - 1; t >= 0; t--) {
                valueTick(t);
                collectAsks(t);
            }
            int value = leastValue(0);
            walk(value);
            return value >> PRICE_AT;
        }

        private void addAsk(long mask, long bits, int value) {
            for (int i = 0; i < asks; i++) {
                if (askMasks[i] == mask && askBits[i] == bits) {
                    askValues[i] = Math.min(askValues[i], value);
                    return;
                }
            }
            if (asks >= askMasks.length) return;
            askMasks[asks] = mask;
            askBits[asks] = bits;
            askValues[asks] = value;
            asks++;
        }

        private void valueTick(int tick) {
            int all = piece.allNotes(tick);
            for (int set = 0; set <= all; set++) {
                int at = tick * NOTE_SETS + set;
                int own = ownValue(tick, all ^ set);
                for (int i = at * GRIPS; i < at * GRIPS + sizes[at]; i++) {
                    int behind = valueBehind(rows[i]);
                    values[i] = behind == NEVER ? NEVER : behind + own;
                }
            }
        }

        private int ownValue(int tick, int leftSet) {
            int price = 0;
            for (int i = 0; i < piece.sizes[tick]; i++) {
                if ((leftSet >> i & 1) != 0) price += piece.prices[tick * NOTES + i];
            }
            return (price << PRICE_AT) + Integer.bitCount(leftSet);
        }

        private int valueBehind(long grip) {
            int least = NEVER;
            for (int i = 0; i < asks; i++) {
                if ((grip & askMasks[i]) == askBits[i]) least = Math.min(least, askValues[i]);
            }
            return least;
        }

        private void collectAsks(int tick) {
            asks = 0;
            for (int set = 0; set <= piece.allNotes(tick); set++) {
                int at = tick * NOTE_SETS + set;
                for (int i = at * GRIPS; i < at * GRIPS + sizes[at]; i++) {
                    long bits = piece.tieBits(tick, rows[i]);
                    if (values[i] == NEVER || bits == Piece.IMPOSSIBLE) continue;
                    addAsk(piece.tieMask(tick, rows[i]), bits, values[i]);
                }
            }
        }

        private int leastValue(int tick) {
            int least = NEVER;
            for (int set = 0; set <= piece.allNotes(tick); set++) {
                int at = tick * NOTE_SETS + set;
                for (int i = at * GRIPS; i < at * GRIPS + sizes[at]; i++) {
                    least = Math.min(least, values[i]);
                }
            }
            return least;
        }

        /** From tick 0 on takes the least mask with which the least value can still be had. */
        private void walk(int value) {
            int rest = value;
            int ahead = 0;
            int aheadGrips = 0;
            for (int t = 0; t < piece.ticks; t++) {
                int all = piece.allNotes(t);
                for (int leftSet = 0; leftSet <= all; leftSet++) {
                    int at = t * NOTE_SETS + (all ^ leftSet);
                    int grips = gripsWith(t, at, rest, ahead, aheadGrips);
                    if (grips == 0) continue;
                    leftMasks[t] = leftSet;
                    rest -= ownValue(t, leftSet);
                    ahead = at;
                    aheadGrips = grips;
                    break;
                }
            }
        }

        /** A bit for each grip of row at that has this value and may follow one of those ahead. */
        private int gripsWith(int tick, int at, int value, int ahead, int aheadGrips) {
            int grips = 0;
            for (int i = 0; i < sizes[at]; i++) {
                if (values[at * GRIPS + i] != value) continue;
                if (tick == 0 || follows(tick, rows[at * GRIPS + i], ahead, aheadGrips)) grips |= 1 << i;
            }
            return grips;
        }

        private boolean follows(int tick, long grip, int ahead, int aheadGrips) {
            long mask = piece.tieMask(tick, grip);
            long bits = piece.tieBits(tick, grip);
            for (int j = 0; j < sizes[ahead]; j++) {
                if ((aheadGrips >> j & 1) != 0 && (rows[ahead * GRIPS + j] & mask) == bits) return true;
            }
            return false;
        }
    }

    /** The tape and how a line of signs is written on it. */
    private static final class Tape {
        private final int[] bytes = new int[BYTES];
        private int length = 0;

        private void append(int b) {
            if (length >= BYTES) return;
            bytes[length] = b;
            length++;
        }

        private void appendLine(long grip, int courses) {
            for (int c = 0; c < courses; c++) {
                int note = noteOn(grip, c);
                append(note == NONE ? '-' : 'a' + Grip.fret(grip, note));
            }
            append(' ');
            for (int c = 0; c < courses; c++) {
                int note = noteOn(grip, c);
                if (note != NONE) append('0' + Grip.finger(grip, note));
            }
            append('\n');
        }

        private static int noteOn(long grip, int course) {
            for (int i = 0; i < NOTES; i++) {
                if (Grip.courseAt(grip, i) == course) return i;
            }
            return NONE;
        }
    }

    /** Reads a tape into a piece of its own, so that a fault leaves the told piece alone. */
    private static final class TapeReader {
        private final Tape tape;
        private final Lute lute;
        private final Piece piece;
        private int place = 0;

        private TapeReader(Tape tape, Lute lute, Piece piece) {
            this.tape = tape;
            this.lute = lute;
            this.piece = piece;
        }

        /** Tells the place of the first fault, or NONE. Where a line stops, its fault is. */
        private int findFault() {
            piece.removeAll();
            for (int line = 0; line <= TICKS; line++) {
                if (place >= tape.length) return NONE;
                if (line == TICKS || !readLine()) return place;
                piece.closeTick();
            }
            return place;
        }

        private boolean readLine() {
            for (int c = 0; c < lute.courses; c++) {
                if (!readCourse(c)) return false;
            }
            if (!readByte(' ')) return false;
            for (int i = 0; i < piece.sizes[piece.ticks]; i++) {
                if (!readFinger(piece.ticks * NOTES + i)) return false;
            }
            return readByte('\n');
        }

        /** What the end of the tape gives is no byte, so it is never one that is wanted. */
        private int here() {
            return place < tape.length ? tape.bytes[place] : NONE;
        }

        private boolean readByte(int wanted) {
            if (here() != wanted) return false;
            place++;
            return true;
        }

        private boolean readCourse(int course) {
            if (readByte('-')) return true;
            int fret = here() - 'a';
            if (!within(fret, lute.frets[course])) return false;
            int pitch = lute.tunes[course] + fret;
            if (piece.noteOfPitch(piece.ticks, pitch) != NONE) return false;
            if (piece.sizes[piece.ticks] >= NOTES) return false;
            piece.addNote(pitch, PLAIN, 1, NONE, course);
            place++;
            return true;
        }

        private boolean readFinger(int note) {
            boolean open = piece.pitches[note] == lute.tunes[piece.fixed[note]];
            int finger = here() - '0';
            if (open ? finger != 0 : finger < 1 || finger > FINGERS) return false;
            place++;
            return true;
        }
    }
}

import java.lang.reflect.Method;
import java.util.ArrayList;
import java.util.Arrays;
import java.util.List;

/**
 * Every call with numbers on both sides of each of its bounds, in several states: which refusal is told
 * ("of several the first one that the act tells"), that what is not refused is taken, and that refused calls
 * change nothing: behind many of them an object answers all that follows as one that was never asked.
 */
public final class RefusalsTest {
    private static final int NONE = -1, BAD = -2, STATE = -3, FULL = -4;
    private static final int LEAST = Integer.MIN_VALUE, MOST = Integer.MAX_VALUE;
    /** What refusal() tells of a call that is none, and of one whose own answer may look like one. */
    private static final int TAKEN = 0, ANY = 1;
    private static final int CALLS = 512;
    private static int wrong = 0, refusals = 0, takings = 0;

    private static void tell(String what) {
        wrong++;
        if (wrong <= 30) System.out.println(what);
    }

    public static void main(String[] args) {
        List<Method> methods = new ArrayList<>();
        for (Method m : LuteFingers.class.getMethods()) {
            if (m.getDeclaringClass() == LuteFingers.class) methods.add(m);
        }
        for (int number = 0; number < 8; number++) {
            State s = new State(number);
            LuteFingers untouched = s.make();
            int[] due = answers(untouched, s);
            List<int[]> numbers = new ArrayList<>();
            List<Method> calls = new ArrayList<>();
            for (Method m : methods) gather(s, m, calls, numbers);
            int most = CALLS - s.calls - due.length;
            for (int from = 0; from < calls.size(); from += most) {
                refuse(s, calls, numbers, from, Math.min(from + most, calls.size()), due);
            }
        }
        System.out.println(refusals + " refused calls, " + takings + " that are taken");
        System.out.println(wrong == 0 ? "all answers are as due" : wrong + " answers are not as due");
        if (wrong != 0) System.exit(1);
    }

    private static int call(Method m, LuteFingers x, int[] numbers) {
        Object[] boxed = new Object[numbers.length];
        for (int i = 0; i < boxed.length; i++) boxed[i] = numbers[i];
        try {
            return (Integer) m.invoke(x, boxed);
        } catch (ReflectiveOperationException e) {
            throw new IllegalStateException(m.getName() + Arrays.toString(numbers), e);
        }
    }

    /** Makes the calls of a method that are taken, and lists those that must be refused. */
    private static void gather(State s, Method m, List<Method> calls, List<int[]> numbers) {
        for (int[] a : all(s.bounds(m.getName()))) {
            int due = s.refusal(m.getName(), a);
            if (due == TAKEN) {
                takings++;
                int got = call(m, s.make(), a);
                if (got < 0 && got >= FULL) tell(s + m.getName() + Arrays.toString(a) + " is refused: " + got);
            } else if (due != ANY) {
                calls.add(m);
                numbers.add(a);
            }
        }
    }

    private static void refuse(State s, List<Method> calls, List<int[]> numbers, int from, int end, int[] due) {
        LuteFingers x = s.make();
        for (int i = from; i < end; i++) {
            refusals++;
            String name = calls.get(i).getName();
            int want = s.refusal(name, numbers.get(i));
            int got = call(calls.get(i), x, numbers.get(i));
            if (got != want) tell(s + name + Arrays.toString(numbers.get(i)) + " answered " + got + ", due is " + want);
        }
        int[] then = answers(x, s);
        for (int i = 0; i < then.length; i++) {
            if (then[i] == due[i]) continue;
            tell(s + "something has changed behind refusals of " + calls.get(from).getName() + " to "
                + calls.get(end - 1).getName() + ": answer " + i + " is " + then[i] + ", due is " + due[i]);
            return;
        }
    }

    /** All rows with one number of each of these. */
    private static List<int[]> all(int[][] choices) {
        List<int[]> rows = new ArrayList<>();
        rows.add(new int[0]);
        for (int[] some : choices) {
            List<int[]> longer = new ArrayList<>();
            for (int[] row : rows) {
                for (int number : some) {
                    int[] next = Arrays.copyOf(row, row.length + 1);
                    next[row.length] = number;
                    longer.add(next);
                }
            }
            rows = longer;
        }
        return rows;
    }

    /** What an object answers to many calls that look at all that it holds, then change all of it. */
    private static int[] answers(LuteFingers x, State s) {
        List<Integer> told = new ArrayList<>();
        int ticks = s.sizes.length;
        for (int what = 0; what < 6; what++) told.add(x.count(what));
        for (int t = 0; t <= ticks; t++) {
            told.add(x.at(t));
            told.add(x.left(t));
            told.add(x.grips(t));
        }
        told.add(x.rest());
        told.add(x.rank(1));
        told.add(x.rank(ticks));
        tellNotes(x, 0, told);
        tellNotes(x, ticks - 1, told);
        told.add(x.why(ticks - 1));
        for (int i : new int[] {0, 1, s.tape - 1, s.tape}) told.add(x.tape(i));
        told.add(x.next());
        told.add(x.at(0));
        told.add(x.at(ticks - 1));
        told.add(x.feed(7));
        told.add(x.wipe());
        told.add(x.check());
        told.add(x.say(0));
        told.add(x.note(119, 0, 1));
        for (int f = 1; f <= 4; f++) told.add(x.slack(f, 1));
        told.add(x.bars(0));
        for (int what = 0; what < 5; what++) told.add(x.weight(what, 1));
        for (int c = 0; c < 6; c++) {
            told.add(x.tune(c, 50));
            for (int k = 0; k < 4; k++) told.add(x.tuning(k, c, 60));
        }
        told.add(x.tick());
        tellNotes(x, ticks, told);
        told.add(x.clear());
        told.add(x.course(1, 1));
        int[] row = new int[told.size()];
        for (int i = 0; i < row.length; i++) row[i] = told.get(i);
        return row;
    }

    private static void tellNotes(LuteFingers x, int tick, List<Integer> told) {
        for (int note = 0; note < 4; note++) {
            for (int what = 0; what < 5; what++) told.add(x.told(tick, note, what));
        }
    }

    /** What is known of an object beside its answers. */
    private static final class State {
        final int number;
        int courses = 0;
        int[] sizes = {};
        /** How many grips each tick has; STATE: it is spent. */
        int[] grips = {};
        /** Pitches of the last tick, and of the notes told for the next one. */
        int[] ahead = {}, coming = {};
        int which = NONE, ways = 0, row = 0, tape = 0;
        boolean arranged = false;
        /** How many calls make() takes. */
        int calls = 0;

        State(int number) {
            this.number = number;
            switch (number) {
                case 0: break;
                case 1: courses = 1; calls = 1; break;
                case 2: setCourses(); break;
                case 3: setTold(); break;
                case 4: setFull(); break;
                case 5: setOneWay(); break;
                case 6: setNoWay(); break;
                default: setArranged(); break;
            }
        }

        @Override public String toString() {
            return "state " + number + ": ";
        }

        LuteFingers make() {
            LuteFingers x = new LuteFingers();
            switch (number) {
                case 0: break;
                case 1: x.course(40, 12); break;
                case 2: makeCourses(x); break;
                case 3: makeTold(x); break;
                case 4: makeFull(x); break;
                case 5: makeOneWay(x); break;
                case 6: makeNoWay(x); break;
                default: makeArranged(x); break;
            }
            return x;
        }

        /** Six courses, four notes told, a full row, three bytes; no tick. */
        private void setCourses() {
            courses = 6;
            coming = new int[] {0, 50, 51, 120};
            row = 16;
            tape = 3;
            calls = 6 + 4 + 16 + 3 + 4;
        }

        private void makeCourses(LuteFingers x) {
            for (int c = 0; c < 6; c++) x.course(40 + c, 2 * c);
            for (int pitch : coming) x.note(pitch, pitch == 50 ? 3 : 0, pitch % 101);
            for (int i = 0; i < 16; i++) x.say(i);
            for (int i = 0; i < 3; i++) x.feed(120 + i);
            x.slack(2, 2);
            x.bars(1);
            x.weight(4, 9);
            x.tuning(3, 5, 99);
        }

        /** Two ticks, the second way at hand, arranged, a note told, a row that is a way, three bytes. */
        private void setTold() {
            courses = 2;
            sizes = new int[] {1, 1};
            grips = new int[] {1, 5};
            ahead = new int[] {43};
            coming = new int[] {43};
            which = 1;
            ways = 5;
            row = 2;
            tape = 3;
            arranged = true;
            calls = 2 + 4 + 1 + 3 + 2 + 3;
        }

        private void makeTold(LuteFingers x) {
            x.course(40, 12);
            x.course(45, 12);
            x.note(41, 0, 1);
            x.tick();
            x.note(43, 0, 1);
            x.tick();
            x.note(43, 1, 5);
            x.way();
            x.next();
            x.arrange();
            x.say(0);
            x.say(3);
            for (int i = 0; i < 3; i++) x.feed(120 + i);
        }

        /** Six courses, 16 ticks of 4 notes, 4 notes told, the eighth way at hand, a full row, signs on the tape. */
        private void setFull() {
            courses = 6;
            sizes = new int[16];
            Arrays.fill(sizes, 4);
            grips = new int[16];
            Arrays.fill(grips, 2);
            ahead = new int[] {40, 41, 42, 43};
            coming = new int[] {40, 44, 45, 46};
            which = 7;
            ways = 1 << 16;
            row = 16;
            tape = 192;
            arranged = true;
            calls = 6 + 80 + 4 + 8 + 1 + 16 + 1;
        }

        private void makeFull(LuteFingers x) {
            for (int tune : new int[] {40, 41, 42, 43, 40, 45}) x.course(tune, 0);
            for (int t = 0; t < 16; t++) {
                for (int pitch : ahead) x.note(pitch, 3, pitch + 1);
                x.tick();
            }
            for (int i = 0; i < 4; i++) x.note(coming[i], i == 0 ? 1 : i == 1 ? 2 : 0, 100);
            x.way();
            for (int i = 0; i < 7; i++) x.next();
            x.arrange();
            for (int i = 0; i < 16; i++) x.say(i % 2);
            x.write();
        }

        /** One tick with one grip: the only way is at hand. */
        private void setOneWay() {
            courses = 1;
            sizes = new int[] {1};
            grips = new int[] {1};
            ahead = new int[] {41};
            which = 0;
            ways = 1;
            calls = 4;
        }

        private void makeOneWay(LuteFingers x) {
            x.course(40, 12);
            x.note(41, 0, 1);
            x.tick();
            x.way();
        }

        /** A spent tick (33 grips), one without grips, one without notes: no way, and it can't be arranged. */
        private void setNoWay() {
            courses = 5;
            sizes = new int[] {1, 2, 0};
            grips = new int[] {STATE, 0, 1};
            row = 1;
            calls = 5 + 6 + 3;
        }

        private void makeNoWay(LuteFingers x) {
            for (int c = 0; c < 5; c++) x.course(c < 4 ? 40 : 45, 12);
            x.note(45, 0, 1);
            x.tick();
            x.note(20, 0, 1);
            x.note(41, 0, 1);
            x.tick();
            x.tick();
            x.way();
            x.arrange();
            x.say(0);
        }

        /** Arranged, one note left; no way. */
        private void setArranged() {
            courses = 1;
            sizes = new int[] {2};
            grips = new int[] {0};
            ahead = new int[] {41, 20};
            arranged = true;
            calls = 6;
        }

        private void makeArranged(LuteFingers x) {
            x.course(40, 12);
            x.note(41, 0, 9);
            x.note(20, 0, 7);
            x.tick();
            x.arrange();
            x.way();
        }

        private static int[] about(int low, int high) {
            return new int[] {LEAST, LEAST + 1, low - 2, low - 1, low, high, high + 1, high + 2, MOST};
        }

        private int[] pitches() {
            int[] some = Arrays.copyOf(about(0, 120), 18);
            some[9] = 60;
            for (int i = 0; i < 4; i++) {
                some[10 + i] = i < ahead.length ? ahead[i] : 70;
                some[14 + i] = i < coming.length ? coming[i] : 71;
            }
            return some;
        }

        /** For each number of a call those about its bounds. */
        int[][] bounds(String name) {
            int[] course = about(0, courses - 1), tick = about(0, sizes.length - 1);
            int[] note = {LEAST, -3, -2, -1, 0, 1, 2, 3, 4, MOST};
            switch (name) {
                case "course": return new int[][] {about(0, 99), about(0, 12)};
                case "tune": return new int[][] {course, about(0, 99)};
                case "slack": return new int[][] {about(1, 4), about(0, 2)};
                case "bars": return new int[][] {about(0, 1)};
                case "weight": return new int[][] {about(0, 4), about(0, 9)};
                case "note": return new int[][] {pitches(), {LEAST, -1, 0, 1, 2, 3, 4, MOST}, about(0, 100)};
                case "fix": return new int[][] {tick, note, about(-1, courses - 1)};
                case "told": return new int[][] {tick, note, about(0, 4)};
                case "grip": return new int[][] {tick, about(0, grips.length == 0 ? 0 : grips[0]), note, about(0, 2)};
                case "grips": case "why": case "at": case "left": return new int[][] {tick};
                case "rank": return new int[][] {about(1, sizes.length)};
                case "say": return new int[][] {about(0, 31)};
                case "tuning": return new int[][] {about(0, 3), course, about(0, 99)};
                case "feed": return new int[][] {about(0, 255)};
                case "tape": return new int[][] {about(0, tape - 1)};
                case "count": return new int[][] {about(0, 5)};
                default: return new int[0][];
            }
        }

        private static boolean in(int number, int low, int high) {
            return number >= low && number <= high;
        }

        private static boolean has(int[] some, int number) {
            for (int each : some) if (each == number) return true;
            return false;
        }

        private boolean hasTick(int tick) {
            return in(tick, 0, sizes.length - 1);
        }

        private boolean hasNote(int tick, int note) {
            return hasTick(tick) && in(note, 0, sizes[tick] - 1);
        }

        int refusal(String name, int[] a) {
            switch (name) {
                case "course": case "tune": case "slack": case "bars": case "weight": return ofInstrument(name, a);
                case "note": case "tick": case "clear": case "fix": case "told": return ofPiece(name, a);
                case "grips": case "grip": case "why": return ofGrips(name, a);
                case "way": case "next": case "at": case "rank": case "say": case "check": return ofWays(name, a);
                case "arrange": case "left": case "rest": case "tuning": case "choose": return ofArranging(name, a);
                default: return ofSigns(name, a);
            }
        }

        private int ofInstrument(String name, int[] a) {
            switch (name) {
                case "course":
                    if (!in(a[0], 0, 99) || !in(a[1], 0, 12)) return BAD;
                    if (sizes.length > 0) return STATE;
                    return courses == 6 ? FULL : TAKEN;
                case "tune":
                    if (!in(a[0], 0, courses - 1)) return NONE;
                    return in(a[1], 0, 99) ? TAKEN : BAD;
                case "slack":
                    if (!in(a[0], 1, 4)) return NONE;
                    return in(a[1], 0, 2) ? TAKEN : BAD;
                case "weight":
                    if (!in(a[0], 0, 4)) return NONE;
                    return in(a[1], 0, 9) ? TAKEN : BAD;
                default:
                    return in(a[0], 0, 1) ? TAKEN : BAD;
            }
        }

        private int ofPiece(String name, int[] a) {
            switch (name) {
                case "note":
                    if (!in(a[0], 0, 120) || !in(a[1], 0, 3) || !in(a[2], 0, 100) || has(coming, a[0])) return BAD;
                    if (a[1] == 1 && !has(ahead, a[0]) || a[1] == 2 && ahead.length == 0) return STATE;
                    return coming.length == 4 ? FULL : TAKEN;
                case "tick":
                    if (courses == 0) return STATE;
                    return sizes.length == 16 ? FULL : TAKEN;
                case "fix":
                    return hasNote(a[0], a[1]) && in(a[2], -1, courses - 1) ? TAKEN : NONE;
                case "told":
                    if (!hasNote(a[0], a[1]) || !in(a[2], 0, 4)) return NONE;
                    return a[2] < 3 ? TAKEN : ANY;
                default:
                    return TAKEN;
            }
        }

        private int ofGrips(String name, int[] a) {
            if (!hasTick(a[0])) return NONE;
            switch (name) {
                case "grips":
                    return grips[a[0]] == STATE ? STATE : TAKEN;
                case "grip":
                    if (!in(a[1], 0, grips[a[0]] - 1) || !in(a[3], 0, 2)) return NONE;
                    return a[2] == -1 || hasNote(a[0], a[2]) ? TAKEN : NONE;
                default:
                    return TAKEN;
            }
        }

        private int ofWays(String name, int[] a) {
            switch (name) {
                case "next":
                    if (which == NONE || which == 7) return STATE;
                    return which + 1 < ways ? TAKEN : NONE;
                case "at":
                    return hasTick(a[0]) && which != NONE ? TAKEN : NONE;
                case "rank":
                    if (which == NONE) return STATE;
                    return in(a[0], 1, sizes.length) ? TAKEN : BAD;
                case "say":
                    if (a[0] < 0) return BAD;
                    return row == 16 ? FULL : TAKEN;
                default:
                    return sizes.length == 0 ? STATE : TAKEN;
            }
        }

        private int ofArranging(String name, int[] a) {
            switch (name) {
                case "arrange":
                    return sizes.length == 0 || has(grips, STATE) ? STATE : TAKEN;
                case "left":
                    return arranged && hasTick(a[0]) ? TAKEN : NONE;
                case "rest":
                    return arranged ? TAKEN : NONE;
                case "tuning":
                    if (!in(a[0], 0, 3) || !in(a[1], 0, courses - 1)) return NONE;
                    return in(a[2], 0, 99) ? TAKEN : BAD;
                default:
                    return sizes.length == 0 ? STATE : ANY;
            }
        }

        private int ofSigns(String name, int[] a) {
            switch (name) {
                case "feed": return in(a[0], 0, 255) ? TAKEN : BAD;
                case "tape": return in(a[0], 0, tape - 1) ? TAKEN : NONE;
                case "write": return which == NONE ? STATE : TAKEN;
                case "read": return courses == 0 ? STATE : TAKEN;
                case "count": return in(a[0], 0, 5) ? a[0] < 5 || which != NONE ? TAKEN : NONE : NONE;
                default: return TAKEN;
            }
        }
    }
}

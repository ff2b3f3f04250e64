import java.lang.reflect.Method;
import java.util.ArrayList;
import java.util.Arrays;
import java.util.Collections;
import java.util.List;
import java.util.Random;

/**
 * Random runs of calls, each answered by the class and by a plain model that tries everything: all
 * grips, all ways, all sets of notes that can be left. The seeds are fixed, so every run is the same.
 */
public final class AgainstPlainTest {
    private static final int NONE = -1, BAD = -2, STATE = -3, FULL = -4;
    /** What the model answers where trying everything would take too long: the call is not made. */
    private static final int TOO_LONG = Integer.MIN_VALUE;
    private static int wrong = 0;
    private static final int[] asked = new int[31];
    private static final int[] refused = new int[31];

    private static final String[] NAMES = {"course", "tune", "slack", "bars", "weight", "note", "tick", "clear",
        "fix", "told", "grips", "grip", "why", "way", "next", "at", "rank", "say", "check", "arrange", "left", "rest",
        "tuning", "choose", "feed", "wipe", "tape", "write", "read", "count"};

    private static final Method[] OF_CLASS = methods(LuteFingers.class), OF_PLAIN = methods(Plain.class);

    public static void main(String[] args) {
        for (int seed = 1; seed <= 6000 && wrong < 5; seed++) run(seed);
        for (int i = 0; i < NAMES.length; i++) {
            if (asked[i] == 0) {
                wrong++;
                System.out.println(NAMES[i] + " was never called");
            }
        }
        StringBuilder told = new StringBuilder();
        for (int i = 0; i < NAMES.length; i++) {
            told.append(NAMES[i]).append(' ').append(asked[i]).append('/').append(refused[i]).append("  ");
        }
        System.out.println("calls/answers below 0: " + told);
        System.out.println(wrong == 0 ? "all answers are as due" : wrong + " runs are not as due");
        if (wrong != 0) System.exit(1);
    }

    private static void run(int seed) {
        Random random = new Random(seed);
        Plain plain = new Plain();
        LuteFingers fingers = new LuteFingers();
        StringBuilder log = new StringBuilder();
        Caller caller = new Caller(random, plain);
        int calls = 60 + random.nextInt(200);
        for (int i = 0; i < calls; i++) {
            int[] call = caller.choose(i);
            int due = answer(OF_PLAIN, plain, call);
            if (due == TOO_LONG) continue;
            int got = answer(OF_CLASS, fingers, call);
            log.append(NAMES[call[0]]).append(Arrays.toString(Arrays.copyOfRange(call, 1, call.length)))
                .append(" -> ").append(got).append('\n');
            asked[call[0]]++;
            if (due < 0) refused[call[0]]++;
            if (got != due) {
                wrong++;
                System.out.println("seed " + seed + ":\n" + log + "due is " + due);
                return;
            }
        }
    }

    /** The methods of a class in the order of NAMES: the model's bear the names of the face. */
    private static Method[] methods(Class<?> of) {
        Method[] found = new Method[NAMES.length];
        for (Method m : of.getDeclaredMethods()) {
            int i = Arrays.asList(NAMES).indexOf(m.getName());
            if (i >= 0) found[i] = m;
        }
        return found;
    }

    private static int answer(Method[] methods, Object on, int[] call) {
        Object[] numbers = new Object[call.length - 1];
        for (int i = 0; i < numbers.length; i++) numbers[i] = call[i + 1];
        try {
            return (Integer) methods[call[0]].invoke(on, numbers);
        } catch (ReflectiveOperationException e) {
            throw new IllegalStateException(NAMES[call[0]] + Arrays.toString(numbers), e);
        }
    }

    /** Chooses calls that make pieces with ways, and now and then wrong numbers. */
    private static final class Caller {
        private final Random random;
        private final Plain plain;
        private final int courses;
        private final int low;
        private final int gap;
        private final int mostTicks;
        private final boolean tight;
        private final List<int[]> planned = new ArrayList<>();

        Caller(Random random, Plain plain) {
            this.random = random;
            this.plain = plain;
            courses = 1 + random.nextInt(6);
            low = 20 + random.nextInt(40);
            gap = random.nextInt(6);
            mostTicks = 1 + random.nextInt(5);
            tight = random.nextBoolean();
        }

        private int code(String name) {
            return Arrays.asList(NAMES).indexOf(name);
        }

        private int[] call(String name, int... numbers) {
            int[] c = new int[numbers.length + 1];
            c[0] = code(name);
            System.arraycopy(numbers, 0, c, 1, numbers.length);
            return c;
        }

        /** Mostly 0 .. n - 1, sometimes beside it. */
        private int near(int n) {
            return random.nextInt(14) == 0 ? random.nextInt(n + 4) - 2 : random.nextInt(Math.max(1, n));
        }

        int[] choose(int i) {
            if (!planned.isEmpty()) return planned.remove(0);
            if (i < courses) return call("course", tuneFor(i), tight ? random.nextInt(6) : 3 + random.nextInt(10));
            int r = random.nextInt(100);
            if (r < 30) return pieceCall();
            if (r < 38) return instrumentCall();
            if (r < 55) return gripCall();
            if (r < 78) return wayCall();
            if (r < 88) return arrangeCall();
            return signCall();
        }

        private int tuneFor(int course) {
            return random.nextInt(30) == 0 ? random.nextInt(110) - 5 : low + course * gap + random.nextInt(2);
        }

        private int pitch() {
            if (random.nextInt(60) == 0) return random.nextInt(130) - 4;
            List<Integer> tunes = plain.tunes;
            if (tunes.isEmpty()) return random.nextInt(121);
            int c = random.nextInt(tunes.size());
            int reach = plain.frets.get(c) + 1;
            return tunes.get(c) + (random.nextInt(3) == 0 ? 0 : random.nextInt(Math.min(reach, 6) + 1));
        }

        private int[] pieceCall() {
            int ticks = plain.ticks.size();
            int r = random.nextInt(20);
            if (r < 10) {
                int kind = random.nextInt(3) == 0 ? near(4) : 0;
                int pitch = pitch();
                if (kind == 1 && ticks > 0 && !plain.ticks.get(ticks - 1).isEmpty()) {
                    List<Note> ahead = plain.ticks.get(ticks - 1);
                    pitch = ahead.get(random.nextInt(ahead.size())).pitch;
                }
                int price = random.nextInt(20) == 0 ? random.nextInt(104) - 2 : random.nextInt(4);
                return call("note", pitch, kind, price);
            }
            if (r < 15 && ticks < mostTicks) return call("tick");
            if (r == 16 && random.nextInt(3) == 0) return call("clear");
            if (r == 17) return call("fix", near(ticks), near(3), random.nextInt(courses + 2) - 1);
            if (r == 18) return call("course", tuneFor(random.nextInt(6)), random.nextInt(15) - 1);
            return call("told", near(ticks), near(3), near(5));
        }

        private int[] instrumentCall() {
            switch (random.nextInt(5)) {
                case 0: return call("tune", near(courses), tuneFor(random.nextInt(6)));
                case 1: return call("slack", near(4) + 1, near(3));
                case 2: return call("bars", near(2));
                case 3: return call("weight", near(5), near(10));
                default: return call("tuning", near(4), near(courses), tuneFor(random.nextInt(6)));
            }
        }

        private int[] gripCall() {
            int ticks = plain.ticks.size();
            int tick = near(ticks);
            int r = random.nextInt(6);
            if (r == 0) return call("grips", tick);
            if (r == 1) return call("why", tick);
            int many = plain.hasTick(tick) ? plain.gripsOf(tick, plain.all(tick)).size() : 1;
            return call("grip", tick, near(many), random.nextInt(5) - 1, near(3));
        }

        private int[] wayCall() {
            int ticks = plain.ticks.size();
            switch (random.nextInt(9)) {
                case 0: case 1: return call("way");
                case 2: case 3: return call("next");
                case 4: return call("at", near(ticks));
                case 5: return call("rank", near(ticks) + 1);
                case 6: return call("check");
                case 7: return call("say", random.nextInt(25) == 0 ? -1 - random.nextInt(3) : random.nextInt(5));
                default: return sayAtHand();
            }
        }

        private int[] sayAtHand() {
            int ticks = plain.ticks.size();
            int said = random.nextInt(5) == 0 ? ticks + random.nextInt(3) - 1 : ticks;
            planned.add(call("check"));
            for (int t = 0; t < said; t++) planned.add(call("say", Math.max(0, plain.at(t))));
            planned.add(call("check"));
            return planned.remove(0);
        }

        private int[] arrangeCall() {
            switch (random.nextInt(5)) {
                case 0: case 1: return call("arrange");
                case 2: return call("left", near(plain.ticks.size()));
                case 3: return call("rest");
                default: return call("choose");
            }
        }

        private int[] signCall() {
            switch (random.nextInt(12)) {
                case 0: return call("wipe");
                case 1: return call("write");
                case 2: return call("tape", near(plain.tape.size()));
                case 3: return call("read");
                case 4: case 5: return call("count", near(6));
                case 6: return call("feed", random.nextInt(260) - 2);
                case 7: return feedSigns();
                default: return call("feed", "abc-- 0123\n".charAt(random.nextInt(11)));
            }
        }

        /** Lines that are mostly as they should be. */
        private int[] feedSigns() {
            if (random.nextInt(6) != 0) planned.add(call("wipe"));
            int lines = random.nextInt(mostTicks + 1);
            for (int i = 0; i < lines; i++) {
                StringBuilder fingers = new StringBuilder();
                for (int c = 0; c < plain.tunes.size(); c++) {
                    int letter = random.nextInt(3) == 0 ? 'a' + random.nextInt(plain.frets.get(c) + 1) : '-';
                    letter = random.nextInt(60) == 0 ? 'a' + random.nextInt(14) : letter;
                    planned.add(call("feed", letter));
                    if (letter != '-') fingers.append(letter == 'a' ? '0' : (char) ('1' + random.nextInt(4)));
                }
                planned.add(call("feed", ' '));
                for (char digit : fingers.toString().toCharArray()) {
                    planned.add(call("feed", random.nextInt(40) == 0 ? '0' + random.nextInt(6) : digit));
                }
                planned.add(call("feed", '\n'));
            }
            if (!planned.isEmpty() && random.nextInt(8) == 0) planned.remove(random.nextInt(planned.size()));
            planned.add(call("read"));
            return planned.remove(0);
        }
    }

    private static final class Note {
        int pitch, kind, price, fore = NONE, fixed = NONE;
    }

    private static final class Hold {
        int place;
        final int[] course = {NONE, NONE, NONE, NONE}, fret = new int[4], finger = new int[4];
    }

    private static final class Path implements Comparable<Path> {
        int cost;
        final List<Integer> numbers = new ArrayList<>();

        @Override public int compareTo(Path other) {
            if (cost != other.cost) return Integer.compare(cost, other.cost);
            for (int t = 0; t < numbers.size(); t++) {
                int order = Integer.compare(numbers.get(t), other.numbers.get(t));
                if (order != 0) return order;
            }
            return 0;
        }
    }

    /** The document in its plainest form. */
    private static final class Plain {
        List<Integer> tunes = new ArrayList<>(), frets = new ArrayList<>();
        final List<List<Integer>> tunings = new ArrayList<>();
        final int[] slacks = {0, 1, 1, 1, 1};
        final int[] weights = {1, 1, 1, 1, 1};
        int bars = 0;
        List<List<Note>> ticks = new ArrayList<>();
        List<Note> coming = new ArrayList<>();
        List<Integer> row = new ArrayList<>(), tape = new ArrayList<>();
        List<Path> ways = null;
        int which = NONE;
        int[] leftMasks = null;
        int restCost = NONE;

        Plain() {
            for (int k = 0; k < 4; k++) tunings.add(new ArrayList<>());
        }

        void forget() {
            ways = null;
            which = NONE;
            leftMasks = null;
            restCost = NONE;
        }

        boolean hasTick(int t) {
            return t >= 0 && t < ticks.size();
        }

        boolean hasNote(int t, int i) {
            return hasTick(t) && i >= 0 && i < ticks.get(t).size();
        }

        int all(int t) {
            return (1 << ticks.get(t).size()) - 1;
        }

        int course(int tune, int fret) {
            if (tune < 0 || tune > 99 || fret < 0 || fret > 12) return BAD;
            if (!ticks.isEmpty()) return STATE;
            if (tunes.size() == 6) return FULL;
            tunes.add(tune);
            frets.add(fret);
            for (List<Integer> each : tunings) each.add(tune);
            forget();
            return tunes.size() - 1;
        }

        int tune(int c, int pitch) {
            if (c < 0 || c >= tunes.size()) return NONE;
            if (pitch < 0 || pitch > 99) return BAD;
            forget();
            return tunes.set(c, pitch);
        }

        int slack(int f, int s) {
            if (f < 1 || f > 4) return NONE;
            if (s < 0 || s > 2) return BAD;
            int was = slacks[f];
            slacks[f] = s;
            forget();
            return was;
        }

        int bars(int may) {
            if (may != 0 && may != 1) return BAD;
            int was = bars;
            bars = may;
            forget();
            return was;
        }

        int weight(int what, int w) {
            if (what < 0 || what > 4) return NONE;
            if (w < 0 || w > 9) return BAD;
            int was = weights[what];
            weights[what] = w;
            forget();
            return was;
        }

        int note(int pitch, int kind, int price) {
            if (pitch < 0 || pitch > 120 || kind < 0 || kind > 3 || price < 0 || price > 100) return BAD;
            for (Note n : coming) if (n.pitch == pitch) return BAD;
            Note n = new Note();
            n.pitch = pitch;
            n.kind = kind;
            n.price = price;
            if (kind == 1 || kind == 2) {
                List<Note> ahead = ticks.isEmpty() ? new ArrayList<>() : ticks.get(ticks.size() - 1);
                for (int i = 0; i < ahead.size(); i++) {
                    if (kind == 1 ? ahead.get(i).pitch == pitch : i == 0) n.fore = i;
                }
                if (n.fore == NONE) return STATE;
            }
            if (coming.size() == 4) return FULL;
            coming.add(n);
            return coming.size();
        }

        int tick() {
            if (tunes.isEmpty()) return STATE;
            if (ticks.size() == 16) return FULL;
            ticks.add(coming);
            coming = new ArrayList<>();
            forget();
            return ticks.size() - 1;
        }

        int clear() {
            int was = ticks.size();
            ticks.clear();
            coming.clear();
            forget();
            return was;
        }

        int fix(int t, int i, int c) {
            if (!hasNote(t, i) || c < -1 || c >= tunes.size()) return NONE;
            Note n = ticks.get(t).get(i);
            int was = n.fixed;
            n.fixed = c;
            forget();
            return was + 1;
        }

        int told(int t, int i, int what) {
            if (!hasNote(t, i) || what < 0 || what > 4) return NONE;
            Note n = ticks.get(t).get(i);
            return new int[] {n.pitch, n.kind, n.price, n.fore, n.fixed}[what];
        }

        /** Every grip of the notes of a mask, however many. */
        List<Hold> gripsOf(int t, int mask) {
            List<Hold> found = new ArrayList<>();
            for (int h = 0; h <= 12; h++) {
                Hold hold = new Hold();
                hold.place = h;
                tryNotes(ticks.get(t), mask, 0, hold, found);
            }
            return found;
        }

        /** Gives courses and fingers without looking, and looks when all have them. */
        private void tryNotes(List<Note> notes, int mask, int i, Hold hold, List<Hold> found) {
            if (i == notes.size()) {
                if (isGrip(notes, mask, hold)) found.add(copy(hold));
                return;
            }
            if ((mask >> i & 1) == 0) {
                tryNotes(notes, mask, i + 1, hold, found);
                return;
            }
            for (int c = 0; c < tunes.size(); c++) {
                int x = notes.get(i).pitch - tunes.get(c);
                if (x < 0 || x > frets.get(c)) continue;
                for (int f = x == 0 ? 0 : 1; f <= (x == 0 ? 0 : 4); f++) {
                    hold.course[i] = c;
                    hold.fret[i] = x;
                    hold.finger[i] = f;
                    // Only to be done sooner: a finger that does not reach spoils every grip with it.
                    if (f == 0 || reaches(hold, i)) tryNotes(notes, mask, i + 1, hold, found);
                    hold.course[i] = NONE;
                    hold.fret[i] = 0;
                    hold.finger[i] = 0;
                }
            }
        }

        private boolean reaches(Hold hold, int i) {
            int least = hold.place + hold.finger[i] - 1;
            return hold.place > 0 && hold.fret[i] >= least && hold.fret[i] <= least + slacks[hold.finger[i]];
        }

        private boolean isGrip(List<Note> notes, int mask, Hold hold) {
            int ones = 0;
            boolean used = false;
            for (int i = 0; i < notes.size(); i++) {
                if ((mask >> i & 1) == 0) continue;
                if (notes.get(i).kind == 3 && hold.fret[i] != 0) return false;
                if (notes.get(i).fixed != NONE && notes.get(i).fixed != hold.course[i]) return false;
                if (hold.finger[i] == 1) ones++;
                if (hold.finger[i] != 0) used = true;
            }
            if (used != (hold.place != 0) || (ones > 1 && bars == 0)) return false;
            for (int i = 0; i < notes.size(); i++) {
                if ((mask >> i & 1) == 0) continue;
                if (hold.finger[i] == 1 && ones > 1 && hold.fret[i] != hold.place) return false;
                for (int j = 0; j < notes.size(); j++) {
                    if (j == i || (mask >> j & 1) == 0) continue;
                    if (hold.course[i] == hold.course[j]) return false;
                    if (hold.finger[i] == 0 || hold.finger[j] == 0) continue;
                    if (hold.finger[i] == hold.finger[j] && hold.finger[i] != 1) return false;
                    if (hold.finger[i] < hold.finger[j]) {
                        if (hold.fret[i] > hold.fret[j]) return false;
                        if (hold.fret[i] == hold.fret[j] && hold.course[i] < hold.course[j]) return false;
                    }
                }
            }
            return true;
        }

        private Hold copy(Hold from) {
            Hold hold = new Hold();
            hold.place = from.place;
            for (int i = 0; i < 4; i++) {
                hold.course[i] = from.course[i];
                hold.fret[i] = from.fret[i];
                hold.finger[i] = from.finger[i];
            }
            return hold;
        }

        private boolean hasBar(Hold hold) {
            int ones = 0;
            for (int f : hold.finger) if (f == 1) ones++;
            return ones > 1;
        }

        int costOf(Hold hold) {
            int least = 99, most = -1, fingers = 0;
            for (int f = 1; f <= 4; f++) {
                boolean used = false;
                for (int i = 0; i < 4; i++) {
                    if (hold.finger[i] != f) continue;
                    used = true;
                    least = Math.min(least, hold.fret[i]);
                    most = Math.max(most, hold.fret[i]);
                }
                if (used) fingers++;
            }
            int stretch = most < 0 ? 0 : most - least;
            return weights[0] * stretch + weights[1] * fingers + (hasBar(hold) ? weights[2] : 0);
        }

        List<Hold> usable(int t, int mask) {
            List<Hold> all = gripsOf(t, mask);
            return all.size() > 32 ? new ArrayList<>() : all;
        }

        int grips(int t) {
            if (!hasTick(t)) return NONE;
            int many = gripsOf(t, all(t)).size();
            return many > 32 ? STATE : many;
        }

        int grip(int t, int i, int note, int what) {
            if (!hasTick(t)) return NONE;
            List<Hold> list = usable(t, all(t));
            if (i < 0 || i >= list.size() || what < 0 || what > 2) return NONE;
            Hold hold = list.get(i);
            if (note == -1) return new int[] {hold.place, costOf(hold), hasBar(hold) ? 1 : 0}[what];
            if (!hasNote(t, note)) return NONE;
            return new int[] {hold.course[note], hold.fret[note], hold.finger[note]}[what];
        }

        int why(int t) {
            if (!hasTick(t)) return NONE;
            for (int size = 1; size <= 4; size++) {
                for (int mask = 1; mask <= all(t); mask++) {
                    if (Integer.bitCount(mask) == size && gripsOf(t, mask).isEmpty()) return mask;
                }
            }
            return 0;
        }

        boolean tiesHold(int t, int mask, Hold ahead, Hold hold) {
            List<Note> notes = ticks.get(t);
            for (int i = 0; i < notes.size(); i++) {
                Note n = notes.get(i);
                if ((mask >> i & 1) == 0 || n.fore == NONE) continue;
                if (hold.course[i] != ahead.course[n.fore]) return false;
                if (n.kind == 1 && hold.finger[i] != ahead.finger[n.fore]) return false;
            }
            return true;
        }

        int lead(Hold hold) {
            for (int c : hold.course) if (c != NONE) return c;
            return NONE;
        }

        int costOf(List<Hold> holds) {
            int cost = 0;
            for (Hold hold : holds) cost += costOf(hold);
            List<Integer> places = new ArrayList<>();
            for (Hold hold : holds) if (hold.place != 0) places.add(hold.place);
            for (int i = 1; i < places.size(); i++) cost += weights[3] * Math.abs(places.get(i) - places.get(i - 1));
            for (int i = 1; i < holds.size(); i++) {
                int one = lead(holds.get(i - 1)), two = lead(holds.get(i));
                if (one != NONE && two != NONE) cost += weights[4] * Math.abs(one - two);
            }
            return cost;
        }

        /** All ways, in no order; null: too many to try. deepest[0]: the most ticks that any try got through. */
        List<Path> allWays(List<List<Hold>> lists, int[] masks, int[] deepest) {
            List<Path> found = new ArrayList<>();
            int[] budget = {150000};
            extend(lists, masks, new ArrayList<>(), new Path(), found, deepest, budget);
            return budget[0] < 0 ? null : found;
        }

        private void extend(List<List<Hold>> lists, int[] masks, List<Hold> so, Path path, List<Path> found,
                int[] deepest, int[] budget) {
            int t = so.size();
            deepest[0] = Math.max(deepest[0], t);
            if (budget[0]-- < 0) return;
            if (t == lists.size()) {
                Path whole = new Path();
                whole.numbers.addAll(path.numbers);
                whole.cost = costOf(so);
                found.add(whole);
                return;
            }
            for (int g = 0; g < lists.get(t).size(); g++) {
                Hold hold = lists.get(t).get(g);
                if (t > 0 && !tiesHold(t, masks[t], so.get(t - 1), hold)) continue;
                so.add(hold);
                path.numbers.add(g);
                extend(lists, masks, so, path, found, deepest, budget);
                so.remove(t);
                path.numbers.remove(t);
            }
        }

        int[] fullMasks() {
            int[] masks = new int[ticks.size()];
            for (int t = 0; t < masks.length; t++) masks[t] = all(t);
            return masks;
        }

        List<List<Hold>> listsOf(int[] masks) {
            List<List<Hold>> lists = new ArrayList<>();
            for (int t = 0; t < masks.length; t++) lists.add(usable(t, masks[t]));
            return lists;
        }

        int way() {
            if (ticks.isEmpty()) return STATE;
            int[] masks = fullMasks(), deepest = {0};
            List<Path> found = allWays(listsOf(masks), masks, deepest);
            if (found == null) return TOO_LONG;
            if (found.isEmpty()) return -10 - deepest[0];
            Collections.sort(found);
            ways = found;
            which = 0;
            return found.get(0).cost;
        }

        int next() {
            if (which == NONE || which == 7) return STATE;
            if (which + 1 >= ways.size()) return NONE;
            which++;
            return ways.get(which).cost;
        }

        int at(int t) {
            return which == NONE || !hasTick(t) ? NONE : ways.get(which).numbers.get(t);
        }

        List<Hold> holdsAtHand() {
            List<Hold> holds = new ArrayList<>();
            for (int t = 0; t < ticks.size(); t++) holds.add(gripsOf(t, all(t)).get(at(t)));
            return holds;
        }

        int rank(int n) {
            if (which == NONE) return STATE;
            if (n < 1 || n > ticks.size()) return BAD;
            List<Hold> holds = holdsAtHand();
            int most = -1;
            for (int from = 0; from + n <= holds.size(); from++) {
                most = Math.max(most, costOf(holds.subList(from, from + n)));
            }
            return most;
        }

        int say(int g) {
            if (g < 0) return BAD;
            if (row.size() == 16) return FULL;
            row.add(g);
            return row.size();
        }

        int check() {
            if (ticks.isEmpty()) return STATE;
            List<Integer> said = row;
            row = new ArrayList<>();
            List<Hold> holds = new ArrayList<>();
            for (int t = 0; t < ticks.size(); t++) {
                if (t >= said.size()) return -10 - t;
                List<Hold> list = usable(t, all(t));
                if (said.get(t) >= list.size()) return -10 - t;
                holds.add(list.get(said.get(t)));
                if (t > 0 && !tiesHold(t, all(t), holds.get(t - 1), holds.get(t))) return -10 - t;
            }
            return said.size() > ticks.size() ? -26 : costOf(holds);
        }

        int arrange() {
            if (ticks.isEmpty()) return STATE;
            int notes = 0;
            for (int t = 0; t < ticks.size(); t++) {
                notes += ticks.get(t).size();
                for (int mask = 0; mask <= all(t); mask++) if (gripsOf(t, mask).size() > 32) return STATE;
            }
            if (notes > 8) return TOO_LONG;
            int[] best = null;
            int bestPrice = 0;
            for (long code = 0; code < 1L << notes; code++) {
                int[] left = leftOf(code);
                int price = priceOf(left);
                if (best != null && !isBefore(left, price, best, bestPrice)) continue;
                int[] kept = keptOf(left);
                if (kept == null) continue;
                List<Path> found = allWays(listsOf(kept), kept, new int[1]);
                if (found == null) return TOO_LONG;
                if (found.isEmpty()) continue;
                best = left;
                bestPrice = price;
                restCost = Collections.min(found).cost;
            }
            leftMasks = best;
            return bestPrice;
        }

        private int[] leftOf(long code) {
            int[] left = new int[ticks.size()];
            int shift = 0;
            for (int t = 0; t < left.length; t++) {
                left[t] = (int) (code >> shift) & all(t);
                shift += ticks.get(t).size();
            }
            return left;
        }

        private int priceOf(int[] left) {
            int price = 0;
            for (int t = 0; t < left.length; t++) {
                for (int i = 0; i < ticks.get(t).size(); i++) {
                    if ((left[t] >> i & 1) != 0) price += ticks.get(t).get(i).price;
                }
            }
            return price;
        }

        private boolean isBefore(int[] left, int price, int[] best, int bestPrice) {
            if (price != bestPrice) return price < bestPrice;
            int many = 0, bestMany = 0;
            for (int t = 0; t < left.length; t++) {
                many += Integer.bitCount(left[t]);
                bestMany += Integer.bitCount(best[t]);
            }
            if (many != bestMany) return many < bestMany;
            return Arrays.compare(left, best) < 0;
        }

        /** null: a held or slurred note is kept whose fore is left. */
        private int[] keptOf(int[] left) {
            int[] kept = new int[left.length];
            for (int t = 0; t < left.length; t++) {
                kept[t] = all(t) & ~left[t];
                for (int i = 0; i < ticks.get(t).size(); i++) {
                    int fore = ticks.get(t).get(i).fore;
                    if ((kept[t] >> i & 1) != 0 && fore != NONE && (left[t - 1] >> fore & 1) != 0) return null;
                }
            }
            return kept;
        }

        int left(int t) {
            return leftMasks == null || !hasTick(t) ? NONE : leftMasks[t];
        }

        int rest() {
            return leftMasks == null ? NONE : restCost;
        }

        int tuning(int k, int c, int pitch) {
            if (k < 0 || k > 3 || c < 0 || c >= tunes.size()) return NONE;
            if (pitch < 0 || pitch > 99) return BAD;
            return tunings.get(k).set(c, pitch);
        }

        int choose() {
            if (ticks.isEmpty()) return STATE;
            List<Integer> told = tunes;
            int chosen = NONE, least = 0;
            for (int k = 0; k < 4; k++) {
                tunes = tunings.get(k);
                int[] masks = fullMasks();
                List<Path> found = allWays(listsOf(masks), masks, new int[1]);
                tunes = told;
                if (found == null) return TOO_LONG;
                if (found.isEmpty()) continue;
                int cost = Collections.min(found).cost;
                if (chosen == NONE || cost < least) {
                    chosen = k;
                    least = cost;
                }
            }
            return chosen;
        }

        int feed(int b) {
            if (b < 0 || b > 255) return BAD;
            if (tape.size() == 600) return FULL;
            tape.add(b);
            return tape.size();
        }

        int wipe() {
            int was = tape.size();
            tape.clear();
            return was;
        }

        int tape(int i) {
            return i < 0 || i >= tape.size() ? NONE : tape.get(i);
        }

        int write() {
            if (which == NONE) return STATE;
            StringBuilder text = new StringBuilder();
            for (Hold hold : holdsAtHand()) {
                StringBuilder digits = new StringBuilder();
                for (int c = 0; c < tunes.size(); c++) {
                    char letter = '-';
                    for (int i = 0; i < 4; i++) {
                        if (hold.course[i] != c) continue;
                        letter = (char) ('a' + hold.fret[i]);
                        digits.append(hold.finger[i]);
                    }
                    text.append(letter);
                }
                text.append(' ').append(digits).append('\n');
            }
            tape.clear();
            for (char c : text.toString().toCharArray()) tape.add((int) c);
            return tape.size();
        }

        int read() {
            if (tunes.isEmpty()) return STATE;
            List<Integer> bytes = tape;
            tape = new ArrayList<>();
            forget();
            List<List<Note>> lines = new ArrayList<>();
            int at = 0;
            while (at < bytes.size()) {
                if (lines.size() == 16) return -10 - at;
                List<Note> line = new ArrayList<>();
                List<Boolean> open = new ArrayList<>();
                for (int c = 0; c < tunes.size(); c++, at++) {
                    if (at == bytes.size()) return -10 - at;
                    int b = bytes.get(at);
                    if (b == 45) continue;
                    if (b < 97 || b > 97 + frets.get(c) || line.size() == 4) return -10 - at;
                    Note n = new Note();
                    n.pitch = tunes.get(c) + b - 97;
                    n.price = 1;
                    n.fixed = c;
                    for (Note other : line) if (other.pitch == n.pitch) return -10 - at;
                    line.add(n);
                    open.add(b == 97);
                }
                if (at == bytes.size() || bytes.get(at) != 32) return -10 - at;
                at++;
                for (boolean isOpen : open) {
                    if (at == bytes.size()) return -10 - at;
                    int digit = bytes.get(at) - 48;
                    if (isOpen ? digit != 0 : digit < 1 || digit > 4) return -10 - at;
                    at++;
                }
                if (at == bytes.size() || bytes.get(at) != 10) return -10 - at;
                at++;
                lines.add(line);
            }
            ticks = lines;
            coming = new ArrayList<>();
            return ticks.size();
        }

        int count(int what) {
            int notes = 0;
            for (List<Note> t : ticks) notes += t.size();
            switch (what) {
                case 0: return tunes.size();
                case 1: return ticks.size();
                case 2: return notes;
                case 3: return coming.size();
                case 4: return which == NONE ? 0 : 1;
                case 5: return which;
                default: return NONE;
            }
        }
    }
}

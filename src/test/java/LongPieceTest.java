import java.util.ArrayList;
import java.util.Arrays;
import java.util.Collections;
import java.util.HashMap;
import java.util.List;
import java.util.Map;
import java.util.Random;

/**
 * Long pieces, for which trying everything takes too long: what way(), next(), arrange(), rest() and
 * choose() tell is found again from the grips that the class tells, from the first tick forward.
 */
public final class LongPieceTest {
    private static final int NONE = -1;
    private static int wrong = 0;
    private static int longWays = 0, tiedWays = 0, leftSome = 0, eighths = 0, brokenWays = 0;

    private static void due(String what, int got, int want) {
        if (got == want) return;
        wrong++;
        System.out.println(what + " answered " + got + ", due is " + want);
    }

    public static void main(String[] args) {
        for (int seed = 1; seed <= 500 && wrong == 0; seed++) run(seed);
        dearest();
        System.out.println(longWays + " long ways, " + tiedWays + " with ties, " + eighths + " eighth ones, "
            + brokenWays + " breaks, " + leftSome + " with notes left");
        if (longWays < 50 || tiedWays < 50 || eighths < 50 || brokenWays < 50 || leftSome < 50) {
            wrong++;
            System.out.println("the pieces are not what this test needs");
        }
        System.out.println(wrong == 0 ? "all answers are as due" : wrong + " answers are not as due");
        if (wrong != 0) System.exit(1);
    }

    private static final class Score {
        int[] tunes, frets, slacks = new int[5], weights = new int[5];
        int bars;
        final List<int[][]> ticks = new ArrayList<>();
    }

    private static final class Line implements Comparable<Line> {
        int cost, last;
        int[] numbers = {};
        int[] hold;

        @Override public int compareTo(Line other) {
            return cost != other.cost ? Integer.compare(cost, other.cost) : Arrays.compare(numbers, other.numbers);
        }
    }

    private static Score score(Random random) {
        Score s = new Score();
        int courses = 2 + random.nextInt(5);
        s.tunes = new int[courses];
        s.frets = new int[courses];
        int tune = 40;
        for (int c = 0; c < courses; c++) {
            s.tunes[c] = tune;
            s.frets[c] = 4 + random.nextInt(9);
            tune += random.nextInt(4) == 0 ? random.nextInt(2) : 3 + random.nextInt(4);
        }
        for (int f = 1; f <= 4; f++) s.slacks[f] = random.nextInt(4) == 0 ? random.nextInt(3) : random.nextInt(2);
        for (int i = 0; i < 5; i++) s.weights[i] = random.nextInt(3) == 0 ? random.nextInt(10) : 1 + random.nextInt(2);
        s.bars = random.nextInt(2);
        int ticks = 6 + random.nextInt(11);
        int[][] ahead = {};
        for (int t = 0; t < ticks; t++) {
            ahead = tick(random, s, ahead);
            s.ticks.add(ahead);
        }
        return s;
    }

    /** Each note: pitch, kind, price, course to which it is fixed. */
    private static int[][] tick(Random random, Score s, int[][] ahead) {
        int size = random.nextInt(12) == 0 ? 0 : 1 + random.nextInt(random.nextInt(3) == 0 ? 4 : 2);
        List<int[]> notes = new ArrayList<>();
        for (int i = 0; i < size; i++) {
            int c = random.nextInt(s.tunes.length);
            int kind = random.nextInt(3) == 0 ? random.nextInt(4) : 0;
            int pitch = s.tunes[c] + (kind == 3 ? 0 : random.nextInt(Math.min(s.frets[c], 6) + 1));
            if (random.nextInt(60) == 0) pitch = 110;
            if (ahead.length == 0 && kind != 3) kind = 0;
            if (kind == 1) pitch = ahead[random.nextInt(ahead.length)][0];
            if (kind == 2) pitch = Math.max(0, ahead[0][0] + random.nextInt(5) - 2);
            boolean there = false;
            for (int[] note : notes) there |= note[0] == pitch;
            int fixed = random.nextInt(15) == 0 ? c : NONE;
            if (!there) notes.add(new int[] {pitch, kind, random.nextInt(5), fixed});
        }
        return notes.toArray(new int[0][]);
    }

    private static LuteFingers instrument(Score s, int[] tunes) {
        LuteFingers x = new LuteFingers();
        for (int c = 0; c < tunes.length; c++) x.course(tunes[c], s.frets[c]);
        for (int f = 1; f <= 4; f++) x.slack(f, s.slacks[f]);
        for (int i = 0; i < 5; i++) x.weight(i, s.weights[i]);
        x.bars(s.bars);
        return x;
    }

    private static LuteFingers play(Score s, int[] tunes) {
        LuteFingers x = instrument(s, tunes);
        for (int t = 0; t < s.ticks.size(); t++) {
            for (int[] note : s.ticks.get(t)) x.note(note[0], note[1], note[2]);
            due("tick", x.tick(), t);
        }
        for (int t = 0; t < s.ticks.size(); t++) {
            int[][] notes = s.ticks.get(t);
            for (int i = 0; i < notes.length; i++) if (notes[i][3] != NONE) x.fix(t, i, notes[i][3]);
        }
        return x;
    }

    /** The grips of some notes of a tick, told by an object that has no other notes: place, cost, courses, fingers. */
    private static List<int[]> holds(Score s, int[] tunes, int t, int mask) {
        LuteFingers x = instrument(s, tunes);
        int[][] notes = s.ticks.get(t);
        List<Integer> which = new ArrayList<>();
        for (int i = 0; i < notes.length; i++) {
            if ((mask >> i & 1) == 0) continue;
            x.note(notes[i][0], notes[i][1] == 3 ? 3 : 0, 1);
            which.add(i);
        }
        x.tick();
        for (int k = 0; k < which.size(); k++) x.fix(0, k, notes[which.get(k)][3]);
        if (x.grips(0) == -3) return null;
        List<int[]> list = new ArrayList<>();
        for (int g = 0; g < x.grips(0); g++) {
            int[] hold = {x.grip(0, g, -1, 0), x.grip(0, g, -1, 1), NONE, NONE, NONE, NONE, NONE, NONE, NONE, NONE};
            for (int k = 0; k < which.size(); k++) {
                hold[2 + which.get(k)] = x.grip(0, g, k, 0);
                hold[6 + which.get(k)] = x.grip(0, g, k, 2);
            }
            list.add(hold);
        }
        return list;
    }

    private static boolean follows(Score s, int t, int[] ahead, int[] hold) {
        int[][] notes = s.ticks.get(t);
        for (int i = 0; i < notes.length; i++) {
            if (hold[2 + i] == NONE || (notes[i][1] != 1 && notes[i][1] != 2)) continue;
            int fore = 0;
            if (notes[i][1] == 1) {
                while (s.ticks.get(t - 1)[fore][0] != notes[i][0]) fore++;
                if (ahead[6 + fore] != hold[6 + i]) return false;
            }
            if (ahead[2 + fore] != hold[2 + i]) return false;
        }
        return true;
    }

    private static int lead(int[] hold) {
        for (int i = 0; i < 4; i++) if (hold[2 + i] != NONE) return hold[2 + i];
        return NONE;
    }

    /** The first eight ways; of lines that end alike (grip, last place) only the first eight are gone on with. */
    private static List<Line> firstWays(Score s, List<List<int[]>> lists, int[] broken) {
        List<Line> lines = new ArrayList<>();
        Line none = new Line();
        none.hold = new int[] {0, 0, NONE, NONE, NONE, NONE, NONE, NONE, NONE, NONE};
        lines.add(none);
        for (int t = 0; t < lists.size(); t++) {
            Map<Integer, List<Line>> ends = new HashMap<>();
            for (Line line : lines) {
                for (int g = 0; g < lists.get(t).size(); g++) {
                    int[] hold = lists.get(t).get(g);
                    if (t > 0 && !follows(s, t, line.hold, hold)) continue;
                    Line longer = longer(s, line, hold, g, t);
                    ends.computeIfAbsent(g * 16 + longer.last, key -> new ArrayList<>()).add(longer);
                }
            }
            if (ends.isEmpty()) {
                broken[0] = t;
                return new ArrayList<>();
            }
            lines = new ArrayList<>();
            for (List<Line> alike : ends.values()) {
                Collections.sort(alike);
                lines.addAll(alike.subList(0, Math.min(8, alike.size())));
            }
        }
        Collections.sort(lines);
        return lines.subList(0, Math.min(8, lines.size()));
    }

    private static Line longer(Score s, Line line, int[] hold, int g, int t) {
        Line longer = new Line();
        longer.numbers = Arrays.copyOf(line.numbers, t + 1);
        longer.numbers[t] = g;
        longer.hold = hold;
        longer.last = hold[0] == 0 ? line.last : hold[0];
        longer.cost = line.cost + hold[1];
        if (hold[0] != 0 && line.last != 0) longer.cost += s.weights[3] * Math.abs(hold[0] - line.last);
        if (lead(hold) != NONE && lead(line.hold) != NONE) {
            longer.cost += s.weights[4] * Math.abs(lead(hold) - lead(line.hold));
        }
        return longer;
    }

    private static List<List<int[]>> lists(Score s, int[] tunes, int[] kept) {
        List<List<int[]>> lists = new ArrayList<>();
        for (int t = 0; t < s.ticks.size(); t++) {
            int mask = kept == null ? (1 << s.ticks.get(t).length) - 1 : kept[t];
            List<int[]> list = holds(s, tunes, t, mask);
            lists.add(list == null ? new ArrayList<>() : list);
        }
        return lists;
    }

    private static void run(int seed) {
        Random random = new Random(seed);
        Score s = score(random);
        LuteFingers x = play(s, s.tunes);
        int[] broken = {0};
        List<Line> due = firstWays(s, lists(s, s.tunes, null), broken);
        String name = "seed " + seed + ": ";
        if (due.isEmpty()) {
            brokenWays++;
            due(name + "way()", x.way(), -10 - broken[0]);
        } else {
            compareWays(name, s, x, due);
        }
        compareLeft(name, s, x);
        compareTunings(name, random, s, x);
        if (!due.isEmpty()) due(name + "way() behind it all", x.way(), due.get(0).cost);
    }

    private static void compareWays(String name, Score s, LuteFingers x, List<Line> due) {
        longWays++;
        for (int[][] notes : s.ticks) {
            boolean tied = false;
            for (int[] note : notes) tied |= note[1] == 1 || note[1] == 2;
            if (tied) {
                tiedWays++;
                break;
            }
        }
        for (int i = 0; i < due.size(); i++) {
            Line line = due.get(i);
            due(name + "way " + i, i == 0 ? x.way() : x.next(), line.cost);
            for (int t = 0; t < line.numbers.length; t++) {
                due(name + "at(" + t + ") of way " + i, x.at(t), line.numbers[t]);
                x.say(line.numbers[t]);
            }
            due(name + "check() of way " + i, x.check(), line.cost);
            due(name + "rank() of all of way " + i, x.rank(line.numbers.length), line.cost);
        }
        if (due.size() == 8) eighths++;
        due(name + "behind the last", x.next(), due.size() == 8 ? -3 : NONE);
    }

    private static final class Leaving implements Comparable<Leaving> {
        int price, many;
        int[] masks = {};
        int[] hold;

        @Override public int compareTo(Leaving other) {
            if (price != other.price) return Integer.compare(price, other.price);
            if (many != other.many) return Integer.compare(many, other.many);
            return Arrays.compare(masks, other.masks);
        }
    }

    /** null: some set of notes has too many grips. */
    private static Leaving leastLeft(Score s) {
        List<Leaving> ends = new ArrayList<>();
        ends.add(new Leaving());
        for (int t = 0; t < s.ticks.size(); t++) {
            List<Leaving> longer = new ArrayList<>();
            int all = (1 << s.ticks.get(t).length) - 1;
            for (int mask = 0; mask <= all; mask++) {
                List<int[]> list = holds(s, s.tunes, t, mask);
                if (list == null) return null;
                for (int[] hold : list) {
                    Leaving best = null;
                    for (Leaving end : ends) {
                        if (t > 0 && !follows(s, t, end.hold, hold)) continue;
                        if (best == null || end.compareTo(best) < 0) best = end;
                    }
                    if (best != null) longer.add(leave(s, best, hold, t, all ^ mask));
                }
            }
            ends = longer;
        }
        return Collections.min(ends);
    }

    private static Leaving leave(Score s, Leaving end, int[] hold, int t, int left) {
        Leaving longer = new Leaving();
        longer.masks = Arrays.copyOf(end.masks, t + 1);
        longer.masks[t] = left;
        longer.hold = hold;
        longer.many = end.many + Integer.bitCount(left);
        longer.price = end.price;
        for (int i = 0; i < s.ticks.get(t).length; i++) {
            if ((left >> i & 1) != 0) longer.price += s.ticks.get(t)[i][2];
        }
        return longer;
    }

    private static void compareLeft(String name, Score s, LuteFingers x) {
        Leaving left = leastLeft(s);
        if (left == null) {
            due(name + "arrange()", x.arrange(), -3);
            return;
        }
        if (left.many > 0) leftSome++;
        due(name + "arrange()", x.arrange(), left.price);
        int[] kept = new int[left.masks.length];
        for (int t = 0; t < kept.length; t++) {
            due(name + "left(" + t + ")", x.left(t), left.masks[t]);
            kept[t] = ((1 << s.ticks.get(t).length) - 1) ^ left.masks[t];
        }
        due(name + "rest()", x.rest(), firstWays(s, lists(s, s.tunes, kept), new int[1]).get(0).cost);
    }

    private static void compareTunings(String name, Random random, Score s, LuteFingers x) {
        int chosen = NONE, least = 0;
        for (int k = 0; k < 4; k++) {
            int[] tunes = s.tunes.clone();
            int changed = random.nextInt(3);
            for (int i = 0; i < changed; i++) tunes[random.nextInt(tunes.length)] += random.nextInt(5) - 2;
            for (int c = 0; c < tunes.length; c++) x.tuning(k, c, tunes[c]);
            List<Line> ways = firstWays(s, lists(s, tunes, null), new int[1]);
            if (ways.isEmpty() || (chosen != NONE && ways.get(0).cost >= least)) continue;
            chosen = k;
            least = ways.get(0).cost;
        }
        due(name + "choose()", x.choose(), chosen);
    }

    /** The calls that take longest, as often as one object may be called. */
    private static void dearest() {
        LuteFingers x = new LuteFingers();
        for (int tune : new int[] {40, 45, 50, 55, 59, 64}) x.course(tune, 12);
        x.bars(1);
        for (int t = 0; t < 16; t++) {
            for (int pitch : new int[] {43, 50, 55, 59}) x.note(pitch, t == 0 ? 0 : 1, 1);
            x.tick();
        }
        for (int i = 0; i < 106; i++) {
            x.weight(0, 1 + i % 9);
            x.arrange();
            x.way();
            x.next();
        }
    }
}

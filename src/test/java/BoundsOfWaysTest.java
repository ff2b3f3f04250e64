import java.util.ArrayList;
import java.util.Arrays;
import java.util.List;
import java.util.function.Supplier;

/** Part 3 of "Terms" and promises 15 to 25: each sentence that names a bound, on both sides of it. */
public final class BoundsOfWaysTest {
    private static final int NONE = -1, BAD = -2, STATE = -3, FULL = -4;
    private static final int LEAST = Integer.MIN_VALUE, MOST = Integer.MAX_VALUE;
    private static String sentence = "";
    private static int sentences = 0;
    private static int wrong = 0;

    private static void sentence(String words) {
        sentence = words;
        sentences++;
    }

    private static void due(String call, int got, int want) {
        if (got == want) return;
        wrong++;
        if (wrong > 30) return;
        System.out.println("\"" + sentence + "\": " + call + " answered " + got + ", due is " + want);
    }

    public static void main(String[] args) {
        heldNotes();
        heldOpen();
        slurredNotes();
        oneFore();
        shifts();
        crossings();
        orderOfWays();
        firstOfAllRows();
        lastGripOfAll();
        fullestPiece();
        dearestWay();
        breaks();
        breakOfTies();
        wayWithoutTicks();
        eightWays();
        nextWithoutWay();
        atNumbers();
        rankNumbers();
        rankOfSome();
        rowNumbers();
        checkedRows();
        checkWithoutTicks();
        arrangeWithoutTicks();
        arrangeSpent();
        leastPrices();
        leastNumber();
        leastMasks();
        leftWithFore();
        leftNumbers();
        restOfThem();
        tuningNumbers();
        tuningAtFirst();
        chosenTunings();
        chooseChangesNothing();
        toldNoMore();
        toldStill();
        manyCalls();
        System.out.println(sentences + " sentences");
        System.out.println(wrong == 0 ? "all answers are as due" : wrong + " answers are not as due");
        if (wrong != 0) System.exit(1);
    }

    private static LuteFingers lute(int frets, int... tunes) {
        LuteFingers x = new LuteFingers();
        for (int tune : tunes) x.course(tune, frets);
        return x;
    }

    private static int plain(LuteFingers x, int... pitches) {
        for (int pitch : pitches) x.note(pitch, 0, 1);
        return x.tick();
    }

    private static int kind(LuteFingers x, int pitch, int kind) {
        x.note(pitch, kind, 1);
        return x.tick();
    }

    private static int fixed(LuteFingers x, int pitch, int course) {
        int tick = plain(x, pitch);
        x.fix(tick, 0, course);
        return tick;
    }

    private static int check(LuteFingers x, int... grips) {
        for (int grip : grips) x.say(grip);
        return x.check();
    }

    // ---- part 3, promises 15 to 20

    private static void heldNotes() {
        sentence("a HELD one has the COURSE and FINGER of its FORE");
        LuteFingers x = lute(12, 40, 40);
        plain(x, 42);
        kind(x, 42, 1);
        // grips: place 1: course 0 fingers 1, 2, course 1 fingers 1, 2; place 2: course 0, course 1 with finger 1
        int[] course = {0, 0, 1, 1, 0, 1}, finger = {1, 2, 1, 2, 1, 1}, place = {1, 1, 1, 1, 2, 2};
        for (int i = 0; i < 6; i++) {
            for (int j = 0; j < 6; j++) {
                boolean held = course[i] == course[j] && finger[i] == finger[j];
                due("check " + i + " " + j, check(x, i, j), held ? 2 + Math.abs(place[i] - place[j]) : -11);
            }
        }
    }

    private static void heldOpen() {
        sentence("(if that is OPEN, 0)");
        LuteFingers x = lute(12, 40, 45);
        kind(x, 45, 3);
        kind(x, 45, 1);
        due("way()", x.way(), 0);
        due("at(1)", x.at(1), 0);
        due("finger", x.grip(1, x.at(1), 0, 2), 0);
        due("course", x.grip(1, x.at(1), 0, 0), 1);
        due("the one way", x.next(), NONE);
        for (int i = 1; i < 9; i++) due("held with a finger", check(x, 0, i), -11);
        due("held open", check(x, 0, 0), 0);
        x.clear();
        plain(x, 45);
        kind(x, 45, 1);
        due("a plain one, open", check(x, 0, 0), 0);
        due("a plain one, open, then not", check(x, 0, 1), -11);
        due("a plain one at fret 5, then open", check(x, 1, 0), -11);
        due("a plain one at fret 5", check(x, 1, 1), 2);
    }

    private static void slurredNotes() {
        sentence("a SLUR the COURSE of its FORE");
        LuteFingers x = lute(12, 40, 40);
        plain(x, 42);
        kind(x, 41, 2);
        // 41: place 1, course 0, course 1
        int[] course = {0, 0, 1, 1, 0, 1};
        for (int i = 0; i < 6; i++) {
            for (int j = 0; j < 2; j++) {
                due("check " + i + " " + j, check(x, i, j), course[i] == j ? 2 + i / 4 : -11);
            }
        }
        LuteFingers y = lute(12, 40, 45);
        y.bars(1);
        plain(y, 41, 46);
        y.note(48, 2, 1);
        y.note(46, 1, 1);
        y.tick();
        due("the course of note 0, not of note 1", y.why(1), 0);
        due("way()", y.way(), -11);
    }

    private static void oneFore() {
        sentence("two NOTES of one FORE want its COURSE, and no two have one");
        for (int kind = 1; kind <= 2; kind++) {
            for (int course = 0; course < 4; course++) {
                LuteFingers z = lute(12, 40, 40, 40, 40);
                fixed(z, 42, course);
                z.note(42, kind, 1);
                z.note(43, 2, 1);
                z.tick();
                z.fix(1, 0, 0);
                z.fix(1, 1, 1);
                due("grips of their own", z.grips(1) > 0 ? 1 : 0, 1);
                due("courses 0 and 1, the fore has " + course, z.way(), -11);
                due("arrange()", z.arrange(), course < 2 ? 1 : 2);
            }
        }
    }

    private static void shifts() {
        sentence("SHIFT times the differences of PLACES, from each one that is not 0 to the next one that is not 0");
        for (int w : new int[] {0, 1, 9}) {
            LuteFingers x = lute(12, 40);
            x.weight(3, w);
            plain(x, 40);
            plain(x, 41);
            x.tick();
            plain(x, 40);
            plain(x, 52);
            plain(x, 40);
            plain(x, 41);
            x.tick();
            // places 0, 1, 0, 0, 8, 0, 1, 0
            due("way(), weight " + w, x.way(), 3 + 14 * w);
            due("rank(3)", x.rank(3), 2 + 7 * w);
            due("rank(4)", x.rank(4), 2 + 7 * w);
            due("rank(6)", x.rank(6), 3 + 14 * w);
            due("a lower place is a shift, too: rank(2)", x.rank(2), 1);
        }
        LuteFingers y = lute(12, 40);
        for (int f = 1; f <= 4; f++) y.slack(f, 0);
        plain(y, 52);
        // without slack fingers 4, 3, 2, 1 have places 9, 10, 11, 12
        plain(y, 52);
        due("12 to 12", check(y, 3, 3), 2);
        due("12 to 9", check(y, 3, 0), 5);
        due("9 to 12", check(y, 0, 3), 5);
    }

    private static void crossings() {
        sentence("CROSSING times the difference of the COURSES of NOTE 0 of two TICKS that both have one");
        for (int w : new int[] {0, 1, 9}) {
            LuteFingers x = lute(0, 40, 41, 42, 43, 44, 45);
            x.weight(4, w);
            plain(x, 40);
            plain(x, 45, 40);
            plain(x, 40, 45);
            x.tick();
            plain(x, 45);
            due("way(), weight " + w, x.way(), 10 * w);
            due("rank(2)", x.rank(2), 5 * w);
            due("rank(3)", x.rank(3), 10 * w);
            due("rank(1)", x.rank(1), 0);
        }
    }

    private static void orderOfWays() {
        sentence("WAYS are in the order of COST, then of their GRIPS' numbers, TICK by TICK");
        LuteFingers x = lute(0, 40, 40);
        x.weight(4, 0);
        for (int t = 0; t < 3; t++) plain(x, 40);
        for (int i = 0; i < 8; i++) {
            due("cost of way " + i, i == 0 ? x.way() : x.next(), 0);
            due("grips of way " + i, x.at(0) * 4 + x.at(1) * 2 + x.at(2), i);
        }
        x.weight(4, 9);
        int[] ways = {0, 7, 1, 3, 4, 6, 2, 5};
        int[] costs = {0, 0, 9, 9, 9, 9, 18, 18};
        for (int i = 0; i < 8; i++) {
            due("cost of way " + i, i == 0 ? x.way() : x.next(), costs[i]);
            due("grips of way " + i, x.at(0) * 4 + x.at(1) * 2 + x.at(2), ways[i]);
        }
    }

    /** All rows of grips are told to check(): the first eight ways of these are those of way() and next(). */
    private static void firstEight(String name, Supplier<LuteFingers> maker) {
        LuteFingers x = maker.get();
        int ticks = x.count(1);
        int many = 1;
        int[] sizes = new int[ticks];
        for (int t = 0; t < ticks; t++) many *= sizes[t] = x.grips(t);
        List<int[]> ways = new ArrayList<>();
        LuteFingers y = null;
        for (int code = 0; code < many; code++) {
            if (code % 40 == 0) y = maker.get();
            int[] way = new int[ticks + 1];
            int rest = code;
            for (int t = ticks - 1; t >= 0; t--) {
                way[t + 1] = rest % sizes[t];
                rest /= sizes[t];
            }
            for (int t = 1; t <= ticks; t++) y.say(way[t]);
            way[0] = y.check();
            if (way[0] >= 0) ways.add(way);
        }
        ways.sort(Arrays::compare);
        due(name + ": enough of them", ways.size() >= 8 ? 1 : 0, 1);
        for (int i = 0; i < 8; i++) {
            due(name + ": cost of way " + i, i == 0 ? x.way() : x.next(), ways.get(i)[0]);
            for (int t = 0; t < ticks; t++) due(name + ": at(" + t + ") of way " + i, x.at(t), ways.get(i)[t + 1]);
        }
    }

    private static void firstOfAllRows() {
        sentence("WAYS are in the order of COST, then of their GRIPS' numbers (all rows of GRIPS are tried)");
        for (int w : new int[] {0, 1, 9}) {
            firstEight("nine grips without a place", () -> nineOpenGrips(w));
            firstEight("31 grips, one without a place", () -> manyGrips(w));
            firstEight("places far apart", () -> farPlaces(w));
        }
    }

    /** Tick 1 has nine grips without a finger, three of which may stand ahead of tick 2's. */
    private static LuteFingers nineOpenGrips(int w) {
        LuteFingers x = lute(12, 40, 40, 40, 41, 41, 41);
        x.weight(4, w);
        fixed(x, 42, 0);
        plain(x, 41, 40);
        x.note(40, 1, 1);
        x.note(41, 1, 1);
        x.fix(x.tick(), 1, 5);
        fixed(x, 43, 5);
        return x;
    }

    private static LuteFingers manyGrips(int w) {
        LuteFingers x = lute(12, 40, 40, 40, 42, 44, 45);
        x.weight(3, w);
        x.weight(4, 0);
        fixed(x, 43, 0);
        plain(x, 45);
        fixed(x, 43, 1);
        return x;
    }

    private static LuteFingers farPlaces(int w) {
        LuteFingers x = lute(12, 40);
        x.weight(3, w);
        for (int pitch : new int[] {40, 43, 40, 45, 40, 41}) plain(x, pitch);
        x.tick();
        plain(x, 42);
        return x;
    }

    private static void lastGripOfAll() {
        sentence("GRIPS numbered from 0 on: 31 is the last one that a WAY can have");
        LuteFingers x = lute(12, 40, 40, 40, 40);
        x.weight(3, 9);
        x.weight(4, 9);
        plain(x, 45);
        fixed(x, 52, 3);
        due("grips(0)", x.grips(0), 32);
        due("way()", x.way(), 1 + 27 + 1);
        due("at(0)", x.at(0), 31);
        due("at(1)", x.at(1), 0);
        due("write()", x.write(), 14);
        due("tape(3)", x.tape(3), 'f');
        x.clear();
        fixed(x, 52, 3);
        plain(x, 45);
        plain(x, 45);
        due("way()", x.way(), 1 + 27 + 1 + 1);
        due("at(1)", x.at(1), 31);
        due("at(2)", x.at(2), 31);
        due("check()", check(x, 0, 31, 31), 30);
        due("check()", check(x, 0, 31, 32), -12);
        x.clear();
        plain(x, 45);
        x.note(45, 1, 1);
        x.note(49, 0, 1);
        int tick = x.tick();
        x.fix(tick, 0, 3);
        x.fix(tick, 1, 0);
        // fret 5 and fret 9 go together from place 5 alone, with fingers 1 and 4
        due("grips(1)", x.grips(1), 1);
        due("arrange()", x.arrange(), 0);
        due("left(0)", x.left(0), 0);
        due("rest()", x.rest(), 1 + 4 + 2);
        due("way()", x.way(), 7);
        due("at(0)", x.at(0), 31);
    }

    private static void fullestPiece() {
        sentence("16 TICKS of 4 NOTES with 32 GRIPS each: not SPENT, the PIECE is full");
        for (int kind = 0; kind <= 1; kind++) {
            LuteFingers x = lute(0, 20, 21, 22);
            for (int tune : new int[] {53, 55, 56}) x.course(tune, 12);
            for (int f = 1; f <= 4; f++) x.slack(f, 2);
            for (int t = 0; t < 16; t++) {
                for (int pitch = 20; pitch < 23; pitch++) x.note(pitch, t == 0 ? 3 : kind, 1);
                x.note(60, t == 0 ? 0 : kind, 1);
                x.tick();
            }
            // 60 has frets 7, 5 and 4: 12, 11 and 9 grips
            for (int t = 0; t < 16; t++) due("grips(" + t + ")", x.grips(t), 32);
            due("grip(15, 31, -1, 0)", x.grip(15, 31, -1, 0), 7);
            due("grip(15, 32, -1, 0)", x.grip(15, 32, -1, 0), NONE);
            due("arrange()", x.arrange(), 0);
            due("left(15)", x.left(15), 0);
            due("rest()", x.rest(), 16);
            due("way()", x.way(), 16);
            for (int t = 0; t < 16; t++) due("at(" + t + ")", x.at(t), 0);
            due("next()", x.next(), 16);
            due("rank(16)", x.rank(16), 16);
            due("write()", x.write(), 192);
            due("choose()", x.choose(), 0);
            int[] last = new int[16];
            Arrays.fill(last, 31);
            due("check()", check(x, last), 16);
            last[15] = 32;
            due("check()", check(x, last), -25);
            x.slack(1, 1);
            due("fewer", x.grips(15), 29);
        }
    }

    private static void dearestWay() {
        sentence("WEIGHTS 9 each, 16 TICKS: the COST is told whole");
        LuteFingers x = lute(12, 40, 45, 50, 55, 60, 65);
        for (int i = 0; i < 5; i++) x.weight(i, 9);
        for (int t = 0; t < 16; t++) fixed(x, t % 2 == 0 ? 41 : 77, t % 2 == 0 ? 0 : 5);
        // places 1 and 8, courses 0 and 5, a finger each
        due("way()", x.way(), 16 * 9 + 15 * (7 * 9 + 5 * 9));
        due("rank(1)", x.rank(1), 9);
        due("rank(2)", x.rank(2), 18 + 108);
        due("rank(16)", x.rank(16), 1764);
        due("check()", check(x, 0, 0, 0, 0, 0, 0, 0, 0, 0, 0, 0, 0, 0, 0, 0, 0), 1764);
        // the last grip of fret 12 is finger 1 from place 12
        due("check()", check(x, 0, 7, 0, 7, 0, 7, 0, 7, 0, 7, 0, 7, 0, 7, 0, 7), 144 + 15 * (99 + 45));
        due("arrange()", x.arrange(), 0);
        due("rest()", x.rest(), 1764);
    }

    private static void breaks() {
        sentence("the BREAK is the least TICK up to which, from TICK 0 on, there is none; -10 less the BREAK");
        for (int broken = 0; broken < 16; broken++) {
            LuteFingers x = lute(12, 40);
            for (int t = 0; t < 16; t++) plain(x, t >= broken && (t == broken || t % 3 == 0) ? 39 : 40);
            due("way(), tick " + broken, x.way(), -10 - broken);
            due("count(4)", x.count(4), 0);
            due("next()", x.next(), STATE);
        }
        LuteFingers y = lute(12, 40);
        for (int t = 0; t < 16; t++) plain(y, 40);
        due("no break", y.way(), 0);
    }

    private static void breakOfTies() {
        sentence("the BREAK is the least TICK up to which there is none (HELD, SLUR)");
        LuteFingers x = lute(12, 40, 45);
        plain(x, 45);
        kind(x, 45, 1);
        x.note(45, 1, 1);
        x.note(40, 0, 1);
        x.tick();
        due("all on course 1", x.way(), 0);
        x.fix(0, 0, 0);
        due("course 0 from tick 0 on; 40 has it in tick 2", x.way(), -12);
        x.fix(1, 0, 1);
        due("another course in tick 1", x.way(), -11);
        x.fix(0, 0, 1);
        due("course 1 again", x.way(), 0);
        x.fix(0, 0, -1);
        x.fix(1, 0, -1);
        x.fix(2, 0, 0);
        due("tick 2 has no grip by itself", x.way(), -12);
        due("grips(2)", x.grips(2), 0);
    }

    private static void wayWithoutTicks() {
        sentence("Promise 15: STATE: there is no TICK");
        LuteFingers x = new LuteFingers();
        due("way(), no course", x.way(), STATE);
        x.course(40, 12);
        due("way(), no tick", x.way(), STATE);
        x.note(40, 0, 1);
        due("way(), a note told", x.way(), STATE);
        x.tick();
        due("way()", x.way(), 0);
        due("way() again", x.way(), 0);
        x.clear();
        due("way() behind clear()", x.way(), STATE);
    }

    private static void eightWays() {
        sentence("Promise 16: STATE: it is the 8th; NONE: there is no other one (that at hand stays)");
        for (int slack = 0; slack <= 2; slack++) {
            LuteFingers x = lute(12, 40);
            x.slack(1, slack);
            plain(x, 52);
            int many = 7 + slack;
            due("ways", x.grips(0), many);
            x.way();
            for (int i = 1; i < Math.min(8, many); i++) {
                due("next()", x.next(), 1);
                due("count(5)", x.count(5), i);
                due("at(0)", x.at(0), i);
            }
            for (int again = 0; again < 2; again++) {
                due("behind the last of " + many, x.next(), many < 8 ? NONE : STATE);
                due("count(4)", x.count(4), 1);
                due("count(5)", x.count(5), Math.min(8, many) - 1);
                due("at(0)", x.at(0), Math.min(8, many) - 1);
                due("rank(1)", x.rank(1), 1);
            }
            due("the first again", x.way(), 1);
            due("count(5)", x.count(5), 0);
            due("at(0)", x.at(0), 0);
            due("the second again", x.next(), 1);
        }
        LuteFingers one = lute(12, 40);
        plain(one, 41);
        one.way();
        due("one way alone", one.next(), NONE);
        due("it stays", one.at(0), 0);
        due("one way alone", one.next(), NONE);
    }

    private static void nextWithoutWay() {
        sentence("Promise 16: STATE: none is at hand");
        LuteFingers x = new LuteFingers();
        due("next(), new", x.next(), STATE);
        x.course(40, 12);
        plain(x, 43);
        due("next(), no way() yet", x.next(), STATE);
        due("check() brings none", check(x, 0), 1);
        due("next()", x.next(), STATE);
        due("arrange() brings none", x.arrange(), 0);
        due("next()", x.next(), STATE);
        due("choose() brings none", x.choose(), 0);
        due("next()", x.next(), STATE);
        due("count(4)", x.count(4), 0);
        due("count(5)", x.count(5), NONE);
        plain(x, 99);
        due("way()", x.way(), -11);
        due("next() behind a break", x.next(), STATE);
        due("write() behind a break", x.write(), STATE);
        due("rank(1) behind a break", x.rank(1), STATE);
        due("at(0) behind a break", x.at(0), NONE);
    }

    private static void atNumbers() {
        sentence("Promise 17: NONE: none such, none at hand");
        LuteFingers x = lute(12, 40);
        due("at(0), no tick", x.at(0), NONE);
        for (int t = 0; t < 16; t++) {
            plain(x, 43);
            due("none at hand", x.at(t), NONE);
        }
        x.way();
        for (int t = 0; t < 16; t++) due("at(" + t + ")", x.at(t), 0);
        for (int tick : new int[] {LEAST, -2, -1, 16, 17, 128, MOST}) due("at(" + tick + ")", x.at(tick), NONE);
        x.next();
        due("at(16) of the second", x.at(16), NONE);
        due("at(-1) of the second", x.at(-1), NONE);
        x.clear();
        due("at(0) behind clear()", x.at(0), NONE);
        plain(x, 43);
        x.way();
        due("at(0) of one tick", x.at(0), 0);
        due("at(1) of one tick", x.at(1), NONE);
    }

    private static void rankNumbers() {
        sentence("Promise 18: STATE: none is at hand; BAD: n not 1 .. how many TICKS");
        LuteFingers x = lute(12, 40);
        due("rank(1), no tick", x.rank(1), STATE);
        for (int t = 0; t < 3; t++) plain(x, 41);
        for (int n : new int[] {LEAST, -1, 0, 1, 3, 4, MOST}) due("rank(" + n + "), none at hand", x.rank(n), STATE);
        x.way();
        for (int n : new int[] {LEAST, LEAST + 3, -1, 0, 4, 5, 16, MOST - 1, MOST}) {
            due("rank(" + n + ")", x.rank(n), BAD);
        }
        for (int n = 1; n <= 3; n++) due("rank(" + n + ")", x.rank(n), n);
        for (int t = 3; t < 16; t++) plain(x, 41);
        x.way();
        due("rank(16)", x.rank(16), 16);
        due("rank(17)", x.rank(17), BAD);
        due("rank(0)", x.rank(0), BAD);
    }

    private static void rankOfSome() {
        sentence("RANK: the greatest COST that n TICKS one behind the other have: GRIPS and what lies between");
        LuteFingers x = lute(12, 40, 45);
        fixed(x, 41, 0);
        plain(x, 40);
        fixed(x, 57, 1);
        x.tick();
        fixed(x, 46, 1);
        x.fix(1, 0, 0);
        // places 1, 0, 8, 0, 1; courses 0, 0, 1, none, 1
        due("way()", x.way(), 3 + 14 + 1);
        int[] ranks = {1, 2, 1 + 7 + 1 + 1, 1 + 7 + 1 + 1, 18};
        for (int n = 1; n <= 5; n++) due("rank(" + n + ")", x.rank(n), ranks[n - 1]);
        x.clear();
        fixed(x, 46, 1);
        x.tick();
        fixed(x, 57, 1);
        plain(x, 40);
        due("the dearest are the first: way()", x.way(), 2 + 7 + 1);
        int[] first = {1, 2, 9, 10};
        for (int n = 1; n <= 4; n++) due("rank(" + n + ")", x.rank(n), first[n - 1]);
    }

    private static void rowNumbers() {
        sentence("Promise 19: how many it has. BAD: below 0; FULL: 16");
        LuteFingers x = new LuteFingers();
        for (int grip : new int[] {LEAST, -32, -2, -1}) due("say(" + grip + ")", x.say(grip), BAD);
        int[] some = {0, MOST, 31, 32, 1 << 30};
        for (int i = 0; i < 16; i++) due("say(" + some[i % 5] + ")", x.say(some[i % 5]), i + 1);
        due("the seventeenth", x.say(0), FULL);
        due("the seventeenth", x.say(MOST), FULL);
        due("below 0, and FULL", x.say(-1), BAD);
        due("below 0, and FULL", x.say(LEAST), BAD);
        x.course(40, 12);
        x.tick();
        due("check()", x.check(), -26);
        due("the row is empty then", x.say(0), 1);
    }

    private static void checkedRows() {
        sentence("Promise 20: -10 less the first TICK at which it is none; THE ROW ends; 16: it goes on");
        LuteFingers x = lute(12, 40);
        for (int t = 0; t < 15; t++) plain(x, 40);
        for (int said = 0; said <= 16; said++) {
            int[] row = new int[said];
            due("a row of " + said + " for 15", check(x, row), said < 15 ? -10 - said : said == 15 ? 0 : -26);
            due("the row is empty", check(x), -10);
        }
        plain(x, 40);
        due("a row of 16 for 16", check(x, new int[16]), 0);
        due("a row of 15 for 16", check(x, new int[15]), -25);
        int[] last = new int[16];
        last[15] = 1;
        due("no such grip at the last", check(x, last), -25);
        last[15] = MOST;
        due("no such grip at the last", check(x, last), -25);
        last[3] = 1;
        due("no such grip at two", check(x, last), -13);
        x.clear();
        plain(x, 40);
        due("none such, and it goes on", check(x, 1, 0, 0), -10);
        due("it goes on, whatever it has", check(x, 0, MOST), -26);
        due("it goes on by 15", check(x, new int[16]), -26);
        due("the row is empty", check(x, 0), 0);
        plain(x, 39);
        due("a tick without grips", check(x, 0, 0), -11);
        due("the row ends where there are no grips", check(x, 0), -11);
    }

    private static void checkWithoutTicks() {
        sentence("Promise 20: STATE: there is no TICK (refusals change nothing: THE ROW stays)");
        LuteFingers x = new LuteFingers();
        due("check(), new", x.check(), STATE);
        x.say(0);
        due("check()", x.check(), STATE);
        x.course(40, 12);
        due("check(), no tick", x.check(), STATE);
        plain(x, 41);
        due("the row is as said", x.check(), 1);
        due("it is empty", x.check(), -10);
        x.say(0);
        x.clear();
        due("check() behind clear()", x.check(), STATE);
        plain(x, 41);
        due("the row is as said", x.check(), 1);
    }

    // ---- promises 21 to 25

    private static void arrangeWithoutTicks() {
        sentence("Promise 21: STATE: there is no TICK; 22, 23: NONE: it was not told");
        LuteFingers x = new LuteFingers();
        due("arrange(), new", x.arrange(), STATE);
        due("left(0)", x.left(0), NONE);
        due("rest()", x.rest(), NONE);
        x.course(40, 12);
        x.note(40, 0, 1);
        due("arrange(), no tick", x.arrange(), STATE);
        x.tick();
        due("left(0), not told", x.left(0), NONE);
        due("rest(), not told", x.rest(), NONE);
        due("arrange()", x.arrange(), 0);
        due("left(0)", x.left(0), 0);
        due("rest()", x.rest(), 0);
        x.clear();
        due("arrange() behind clear()", x.arrange(), STATE);
        due("left(0) behind clear()", x.left(0), NONE);
        due("rest() behind clear()", x.rest(), NONE);
    }

    private static void arrangeSpent() {
        sentence("Promise 21: STATE: a set of NOTES of some TICK has more than 32 GRIPS");
        for (int spent : new int[] {0, 7, 15}) {
            LuteFingers x = lute(12, 40, 40, 40, 40, 46);
            for (int t = 0; t < 16; t++) {
                if (t == spent) {
                    x.note(20, 0, 7);
                    x.note(45, 0, 9);
                }
                x.tick();
            }
            due("all of it have none", x.grips(spent), 0);
            due("32 of one note", x.arrange(), 7);
            due("left", x.left(spent), 1);
            due("rest()", x.rest(), 1);
            x.tune(4, 45);
            due("33 of one note", x.arrange(), STATE);
            due("left", x.left(spent), NONE);
            due("rest()", x.rest(), NONE);
            x.fix(spent, 1, 4);
            due("fixed: one", x.arrange(), 7);
            due("rest()", x.rest(), 0);
        }
        LuteFingers y = lute(12, 40, 40, 40);
        y.note(45, 3, 1);
        y.note(41, 0, 1);
        y.note(43, 0, 1);
        y.tick();
        due("two of the three: 3 times 2 times some", y.arrange(), 1);
        due("left(0)", y.left(0), 1);
    }

    private static void leastPrices() {
        sentence("the one with the least sum of PRICES (PRICE 0 .. 100)");
        for (int price : new int[] {0, 1, 100}) {
            LuteFingers x = lute(12, 40);
            for (int t = 0; t < 16; t++) {
                for (int i = 0; i < 4; i++) x.note(80 + i, 0, price);
                x.tick();
            }
            due("all 64 of price " + price, x.arrange(), 64 * price);
            for (int t = 0; t < 16; t++) due("left(" + t + ")", x.left(t), 15);
            due("rest()", x.rest(), 0);
        }
        LuteFingers y = lute(12, 40, 45, 50);
        y.note(41, 0, 1);
        y.note(57, 0, 0);
        y.note(61, 0, 0);
        y.tick();
        y.fix(0, 1, 1);
        y.fix(0, 2, 2);
        // fret 1 is too far from frets 12 and 11
        due("two of price 0 rather than one of 1", y.arrange(), 0);
        due("left(0)", y.left(0), 6);
        LuteFingers z = lute(12, 40);
        z.note(41, 0, 100);
        z.note(42, 0, 99);
        z.note(43, 0, 100);
        z.tick();
        due("one course: all but the dearest", z.arrange(), 199);
        due("of two alike the least mask", z.left(0), 3);
    }

    private static void leastNumber() {
        sentence("of these that with the least number of NOTES");
        for (int price : new int[] {0, 50}) {
            LuteFingers x = lute(12, 40, 45, 50);
            x.note(57, 0, price / 2);
            x.note(61, 0, price / 2);
            x.note(41, 0, price);
            x.tick();
            x.fix(0, 0, 1);
            x.fix(0, 1, 2);
            due("one note of mask 4 rather than two of mask 3", x.arrange(), price);
            due("left(0)", x.left(0), 4);
        }
        LuteFingers y = lute(12, 40);
        y.note(41, 0, 0);
        y.tick();
        due("nothing is left that need not be", y.arrange(), 0);
        due("left(0)", y.left(0), 0);
        due("rest()", y.rest(), 1);
    }

    private static void leastMasks() {
        sentence("of these that of which the first TICK's mask of NOTES is least, then the second one's");
        LuteFingers x = lute(12, 40, 45);
        x.note(45, 0, 9);
        x.note(40, 3, 1);
        x.tick();
        x.note(50, 2, 1);
        x.tick();
        x.fix(1, 0, 0);
        // the slur wants note 0 on course 0, which the open one has: either goes
        due("arrange()", x.arrange(), 1);
        due("nothing of the first tick", x.left(0), 0);
        due("the slur", x.left(1), 1);
        LuteFingers z = lute(12, 40, 45);
        fixed(z, 45, 0);
        kind(z, 45, 1);
        z.note(50, 0, 1);
        z.note(40, 3, 1);
        z.note(45, 1, 100);
        z.tick();
        z.fix(2, 0, 1);
        // the held one on course 1 would do without note 0, but tick 0 has it on course 0: note 1 goes
        due("arrange()", z.arrange(), 1);
        due("left(0)", z.left(0), 0);
        due("left(1)", z.left(1), 0);
        due("left(2)", z.left(2), 2);
        z.fix(0, 0, 1);
        due("tick 0 has it on course 1", z.arrange(), 1);
        due("left(2)", z.left(2), 1);
        LuteFingers y = lute(12, 40, 45);
        for (int t = 0; t < 16; t++) {
            for (int i = 0; i < 4; i++) y.note(46 + i, 0, 1);
            y.tick();
        }
        due("two of four in each", y.arrange(), 32);
        for (int t = 0; t < 16; t++) due("left(" + t + ")", y.left(t), 3);
    }

    private static void leftWithFore() {
        sentence("a HELD or SLUR one must be LEFT if its FORE is");
        LuteFingers x = lute(12, 40);
        x.note(20, 0, 0);
        x.tick();
        for (int t = 1; t < 16; t++) {
            x.note(20, 1, 100);
            x.tick();
        }
        due("all 15 held ones", x.arrange(), 1500);
        for (int t = 0; t < 16; t++) due("left(" + t + ")", x.left(t), 1);
        LuteFingers y = lute(12, 40, 45);
        y.note(20, 0, 0);
        y.note(45, 0, 1);
        y.tick();
        y.note(41, 2, 100);
        y.note(45, 1, 1);
        y.tick();
        due("a slur of note 0, not of the first that stays", y.arrange(), 100);
        due("left(0)", y.left(0), 1);
        due("left(1)", y.left(1), 1);
        LuteFingers z = lute(12, 40, 45);
        z.note(45, 0, 5);
        z.tick();
        z.note(45, 1, 3);
        z.note(40, 3, 4);
        z.tick();
        z.fix(0, 0, 0);
        due("a held one can be left without its fore", z.arrange(), 3);
        due("left(0)", z.left(0), 0);
        due("left(1)", z.left(1), 1);
    }

    private static void leftNumbers() {
        sentence("Promise 22: NONE: none such");
        LuteFingers x = lute(12, 40);
        for (int t = 0; t < 16; t++) plain(x, 20);
        x.arrange();
        for (int t = 0; t < 16; t++) due("left(" + t + ")", x.left(t), 1);
        for (int tick : new int[] {LEAST, -2, -1, 16, 17, MOST}) due("left(" + tick + ")", x.left(tick), NONE);
        x.clear();
        plain(x, 20);
        due("left(0) of the piece before", x.left(0), NONE);
        due("rest() of the piece before", x.rest(), NONE);
        x.arrange();
        due("left(0)", x.left(0), 1);
        due("left(1)", x.left(1), NONE);
    }

    private static void restOfThem() {
        sentence("Promise 23: The COST of the first WAY of the NOTES that arrange() did not leave");
        LuteFingers x = lute(12, 40, 45);
        x.weight(4, 9);
        x.weight(3, 5);
        x.note(20, 0, 0);
        x.note(41, 0, 1);
        x.tick();
        x.note(20, 0, 0);
        x.tick();
        x.note(57, 0, 1);
        x.tick();
        x.note(40, 3, 1);
        x.tick();
        due("arrange()", x.arrange(), 0);
        // place 1, none, place 8 on course 1, place 0 on course 0
        due("rest()", x.rest(), 1 + 7 * 5 + 1 + 9);
        due("way()", x.way(), -10);
        due("rest() still", x.rest(), 46);
        x.weight(4, 0);
        due("rest() behind weight()", x.rest(), NONE);
        x.arrange();
        due("rest()", x.rest(), 37);
    }

    private static void tuningNumbers() {
        sentence("Promise 24: tuning k (0 .. 3): NONE; BAD");
        LuteFingers none = new LuteFingers();
        due("tuning(0, 0, 40) without courses", none.tuning(0, 0, 40), NONE);
        LuteFingers x = lute(12, 40, 45);
        for (int k : new int[] {LEAST, -2, -1, 4, 5, MOST}) {
            due("tuning(" + k + ", 0, 50)", x.tuning(k, 0, 50), NONE);
            due("tuning(" + k + ", 0, 100)", x.tuning(k, 0, 100), NONE);
        }
        for (int c : new int[] {LEAST, -2, -1, 2, 3, 6, MOST}) {
            due("tuning(0, " + c + ", 50)", x.tuning(0, c, 50), NONE);
            due("tuning(3, " + c + ", -1)", x.tuning(3, c, -1), NONE);
        }
        for (int pitch : new int[] {LEAST, -1, 100, MOST}) {
            due("tuning(0, 0, " + pitch + ")", x.tuning(0, 0, pitch), BAD);
            due("tuning(3, 1, " + pitch + ")", x.tuning(3, 1, pitch), BAD);
        }
        for (int k = 0; k < 4; k++) {
            due("tuning(" + k + ", 0, ..)", x.tuning(k, 0, k), 40);
            due("tuning(" + k + ", 1, ..)", x.tuning(k, 1, 99 - k), 45);
        }
        for (int k = 0; k < 4; k++) {
            due("tuning(" + k + ", 0, ..)", x.tuning(k, 0, 0), k);
            due("tuning(" + k + ", 1, ..)", x.tuning(k, 1, 99), 99 - k);
        }
    }

    private static void tuningAtFirst() {
        sentence("(at first what the COURSE was told with; a later tune() does not change it)");
        LuteFingers x = lute(12, 40);
        x.tune(0, 50);
        x.course(45, 12);
        due("tuning(0, 0, 41)", x.tuning(0, 0, 41), 40);
        x.tune(0, 60);
        due("tuning(0, 0, 42)", x.tuning(0, 0, 42), 41);
        due("tuning(3, 1, 46)", x.tuning(3, 1, 46), 45);
        for (int c = 2; c < 6; c++) x.course(c, 12);
        for (int k = 0; k < 4; k++) due("tuning(" + k + ", 5, 1)", x.tuning(k, 5, 1), 5);
        due("the tune is its own", x.tune(5, 9), 5);
        due("the tune is its own", x.tune(0, 9), 60);
        due("a seventh is refused", x.course(7, 12), FULL);
        due("tuning(0, 5, 2)", x.tuning(0, 5, 2), 1);
    }

    private static void chosenTunings() {
        sentence("Promise 25: costs least, of several the first one; NONE: there is none with any. STATE");
        LuteFingers x = lute(12, 40);
        due("no tick", x.choose(), STATE);
        x.note(45, 0, 1);
        due("a note told", x.choose(), STATE);
        x.tick();
        due("all alike", x.choose(), 0);
        for (int k = 3; k >= 0; k--) {
            x.tuning(k, 0, 45);
            due("open with " + k, x.choose(), k);
        }
        for (int k = 0; k < 4; k++) {
            x.tuning(k, 0, 99);
            due("none with " + k, x.choose(), k < 3 ? k + 1 : NONE);
        }
        due("the tune has a way", x.way(), 1);
        x.tune(0, 99);
        due("the tune has none", x.way(), -10);
        x.tuning(2, 0, 33);
        due("fret 12 with 2 alone", x.choose(), 2);
        x.tuning(1, 0, 32);
        due("fret 13 with 1", x.choose(), 2);
        x.clear();
        due("no tick again", x.choose(), STATE);
    }

    private static void chooseChangesNothing() {
        sentence("Promise 25: (All stays as it is.)");
        LuteFingers x = lute(12, 40, 45);
        plain(x, 43, 99);
        x.arrange();
        x.tuning(1, 1, 95);
        due("choose()", x.choose(), 1);
        due("left(0)", x.left(0), 2);
        due("rest()", x.rest(), 1);
        due("grips(0)", x.grips(0), 0);
        x.clear();
        plain(x, 43);
        due("way()", x.way(), 1);
        x.next();
        x.tuning(3, 0, 43);
        due("choose()", x.choose(), 3);
        due("count(5)", x.count(5), 1);
        due("at(0)", x.at(0), 1);
        due("next()", x.next(), 1);
        due("at(0)", x.at(0), 2);
        due("write()", x.write(), 5);
        due("tape(0)", x.tape(0), 'd');
        due("tuning(3, 0, 43)", x.tuning(3, 0, 43), 43);
        due("tuning(0, 0, 40)", x.tuning(0, 0, 40), 40);
        due("tune(0, 40)", x.tune(0, 40), 40);
        due("tune(1, 45)", x.tune(1, 45), 45);
    }

    // ---- what is told no more

    private static LuteFingers told() {
        LuteFingers x = lute(12, 40, 45);
        plain(x, 41);
        plain(x, 43);
        x.note(42, 0, 1);
        x.way();
        x.next();
        x.arrange();
        return x;
    }

    private static void toldNoMore() {
        sentence("What way(), next(), arrange() told is told no more behind ..");
        for (int act = 0; act < 9; act++) {
            LuteFingers x = told();
            switch (act) {
                case 0: x.tune(0, 40); break;
                case 1: x.slack(4, 1); break;
                case 2: x.bars(0); break;
                case 3: x.weight(4, 1); break;
                case 4: x.tick(); break;
                case 5: x.clear(); plain(x, 41); plain(x, 43); break;
                case 6: x.fix(1, 0, -1); break;
                case 7: for (int b : new int[] {'b', '-', ' ', '1', 10}) x.feed(b); x.read(); break;
                default: x.read(); plain(x, 41); break;
            }
            due("count(4) behind act " + act, x.count(4), 0);
            due("count(5) behind act " + act, x.count(5), NONE);
            due("at(0) behind act " + act, x.at(0), NONE);
            due("rank(1) behind act " + act, x.rank(1), STATE);
            due("next() behind act " + act, x.next(), STATE);
            due("write() behind act " + act, x.write(), STATE);
            due("left(0) behind act " + act, x.left(0), NONE);
            due("rest() behind act " + act, x.rest(), NONE);
            due("a new way() behind act " + act, x.way() >= 0 ? 1 : 0, 1);
            due("rest() behind a new way()", x.rest(), NONE);
            due("a new arrange() behind act " + act, x.arrange(), 0);
            due("left(0)", x.left(0), 0);
        }
    }

    private static void toldStill() {
        sentence("They change nothing: what was told is told still behind a refused call, and behind the others");
        for (int act = 0; act < 22; act++) {
            LuteFingers x = told();
            doAct(x, act);
            due("count(4) behind act " + act, x.count(4), 1);
            due("count(5) behind act " + act, x.count(5), 1);
            due("at(1) behind act " + act, x.at(1), 1);
            due("rank(2) behind act " + act, x.rank(2), 2);
            due("left(1) behind act " + act, x.left(1), 0);
            due("rest() behind act " + act, x.rest(), 2);
            due("next() behind act " + act, x.next(), 3);
        }
        LuteFingers full = lute(12, 40);
        for (int t = 0; t < 16; t++) plain(full, 43);
        full.way();
        full.arrange();
        due("tick()", full.tick(), FULL);
        due("course()", full.course(50, 5), STATE);
        due("at(15)", full.at(15), 0);
        due("rest()", full.rest(), 16);
    }

    private static void doAct(LuteFingers x, int act) {
        switch (act) {
            case 0: due("tune", x.tune(2, 45), NONE); break;
            case 1: due("tune", x.tune(0, 100), BAD); break;
            case 2: due("slack", x.slack(0, 1), NONE); break;
            case 3: due("slack", x.slack(1, 3), BAD); break;
            case 4: due("bars", x.bars(2), BAD); break;
            case 5: due("weight", x.weight(5, 1), NONE); break;
            case 6: due("weight", x.weight(0, 10), BAD); break;
            case 7: due("course", x.course(50, 5), STATE); break;
            case 8: due("course", x.course(50, 13), BAD); break;
            case 9: due("fix", x.fix(2, 0, 0), NONE); break;
            case 10: due("fix", x.fix(0, 1, 0), NONE); break;
            case 11: due("fix", x.fix(0, 0, 2), NONE); break;
            case 12: due("note", x.note(50, 0, 1), 2); break;
            case 13: due("note", x.note(42, 0, 1), BAD); break;
            case 14: due("tuning", x.tuning(0, 0, 50), 40); break;
            case 15: due("choose", x.choose(), 0); break;
            case 16: due("check", check(x, 0, 0), 2); break;
            case 17: due("arrange", x.arrange(), 0); break;
            case 18: due("feed", x.feed(1), 1); due("wipe", x.wipe(), 1); break;
            case 19: due("write", x.write(), 10); break;
            case 20: due("grips", x.grips(1), 5); due("why", x.why(1), 0); break;
            default: due("rank", x.rank(0), BAD); due("say", x.say(-1), BAD); break;
        }
    }

    private static void manyCalls() {
        sentence("An object is used for at most 512 calls after it has been made");
        LuteFingers x = new LuteFingers();
        int calls = 0;
        for (int tune : new int[] {40, 45, 50, 55, 59, 64}) calls += x.course(tune, 12) >= 0 ? 1 : 1000;
        for (int t = 0; t < 16; t++) {
            for (int i = 0; i < 4; i++) {
                due("note", x.note(new int[] {43, 50, 55, 59}[i], t % 4 == 0 ? 0 : 1, 1 + i), i + 1);
            }
            due("tick", x.tick(), t);
            calls += 5;
        }
        int[] first = new int[6];
        for (int round = 0; calls + 6 <= 511; round++) {
            int[] answers = {x.weight(0, 1), x.way(), x.next(), x.arrange(), x.rest(), x.choose()};
            calls += 6;
            if (round == 0) first = answers;
            for (int i = 0; i < 6; i++) due("answer " + i + " of round " + round, answers[i], first[i]);
        }
        while (calls < 511) calls += x.way() == first[1] ? 1 : 1000;
        due("the calls", calls, 511);
        due("the last call", x.count(2), 64);
    }
}

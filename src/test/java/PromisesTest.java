/** Each promise of the document by its number: ordinary calls, the edges that it names, wrong numbers. */
public final class PromisesTest {
    private static final int NONE = -1, BAD = -2, STATE = -3, FULL = -4;
    private static int wrong = 0;

    private static void due(int promise, String what, int got, int want) {
        if (got == want) return;
        wrong++;
        System.out.println("promise " + promise + ": " + what + " answered " + got + ", due is " + want);
    }

    public static void main(String[] args) {
        newObject();
        courses();
        instrument();
        notes();
        ticks();
        clearing();
        fixing();
        telling();
        gripShapes();
        gripOrder();
        gripRules();
        spentTicks();
        whys();
        ways();
        ties();
        breaks();
        nexts();
        places();
        ranks();
        checks();
        arranging();
        arrangingTies();
        restOfSome();
        tunings();
        choosing();
        tapes();
        writing();
        reading();
        readingFaults();
        counting();
        toldNoMore();
        System.out.println(wrong == 0 ? "all answers are as due" : wrong + " answers are not as due");
        if (wrong != 0) System.exit(1);
    }

    private static LuteFingers lute(int frets, int... tunes) {
        LuteFingers x = new LuteFingers();
        for (int tune : tunes) x.course(tune, frets);
        return x;
    }

    private static int plain(LuteFingers x, int... pitches) {
        for (int pitch : pitches) x.note(pitch, 0, 1);
        return x.tick();
    }

    private static int kind(LuteFingers x, int kind, int pitch) {
        x.note(pitch, kind, 1);
        return x.tick();
    }

    private static void feed(LuteFingers x, String text) {
        for (char c : text.toCharArray()) x.feed(c);
    }

    private static int readText(LuteFingers x, String text) {
        x.wipe();
        feed(x, text);
        return x.read();
    }

    private static String taped(LuteFingers x) {
        StringBuilder text = new StringBuilder();
        for (int i = 0; x.tape(i) != NONE; i++) text.append((char) x.tape(i));
        return text.toString();
    }

    private static void newObject() {
        LuteFingers x = new LuteFingers();
        due(1, "count(0)", x.count(0), 0);
        due(1, "count(1)", x.count(1), 0);
        due(1, "count(2)", x.count(2), 0);
        due(1, "count(3)", x.count(3), 0);
        due(1, "count(4)", x.count(4), 0);
        due(1, "count(5)", x.count(5), NONE);
        due(1, "tape(0)", x.tape(0), NONE);
        due(1, "wipe()", x.wipe(), 0);
        due(1, "slack", x.slack(1, 1), 1);
        due(1, "slack", x.slack(4, 1), 1);
        due(1, "bars", x.bars(0), 0);
        for (int i = 0; i < 5; i++) due(1, "weight " + i, x.weight(i, 1), 1);
        due(1, "the row is empty", x.say(0), 1);
    }

    private static void courses() {
        LuteFingers x = new LuteFingers();
        due(2, "tune -1", x.course(-1, 3), BAD);
        due(2, "tune 100", x.course(100, 3), BAD);
        due(2, "frets -1", x.course(3, -1), BAD);
        due(2, "frets 13", x.course(3, 13), BAD);
        due(2, "edges", x.course(0, 0), 0);
        due(2, "edges", x.course(99, 12), 1);
        for (int i = 2; i < 6; i++) due(2, "course", x.course(50, 5), i);
        due(2, "seventh", x.course(50, 5), FULL);
        due(2, "seventh, wrong", x.course(50, 13), BAD);
        x.note(50, 0, 1);
        due(2, "notes told are no tick", x.course(50, 5), FULL);
        x.tick();
        due(2, "STATE ahead of FULL", x.course(50, 5), STATE);
        due(2, "BAD ahead of STATE", x.course(50, 13), BAD);
        x.clear();
        due(2, "without ticks again", x.course(50, 5), FULL);
        LuteFingers y = lute(5, 50);
        y.note(50, 0, 1);
        due(2, "with a note told", y.course(55, 5), 1);
        due(2, "the note stays", y.count(3), 1);
    }

    private static void instrument() {
        LuteFingers x = lute(5, 50, 60);
        due(3, "course -1", x.tune(-1, 5), NONE);
        due(3, "course 2", x.tune(2, 5), NONE);
        due(3, "NONE ahead of BAD", x.tune(2, 100), NONE);
        due(3, "pitch 100", x.tune(1, 100), BAD);
        due(3, "pitch -1", x.tune(1, -1), BAD);
        due(3, "tune", x.tune(1, 99), 60);
        due(3, "tune", x.tune(1, 0), 99);
        due(3, "tune", x.tune(0, 1), 50);
        due(4, "finger 0", x.slack(0, 1), NONE);
        due(4, "finger 5", x.slack(5, 1), NONE);
        due(4, "NONE ahead of BAD", x.slack(5, 3), NONE);
        due(4, "slack 3", x.slack(4, 3), BAD);
        due(4, "slack -1", x.slack(1, -1), BAD);
        due(4, "slack", x.slack(1, 2), 1);
        due(4, "slack", x.slack(1, 0), 2);
        due(4, "slack", x.slack(1, 1), 0);
        due(4, "another one's", x.slack(2, 1), 1);
        due(5, "bars 2", x.bars(2), BAD);
        due(5, "bars -1", x.bars(-1), BAD);
        due(5, "bars", x.bars(1), 0);
        due(5, "bars", x.bars(1), 1);
        due(5, "bars", x.bars(0), 1);
        due(6, "weight 5", x.weight(5, 1), NONE);
        due(6, "weight -1", x.weight(-1, 1), NONE);
        due(6, "NONE ahead of BAD", x.weight(-1, 10), NONE);
        due(6, "weight of 10", x.weight(4, 10), BAD);
        due(6, "weight of -1", x.weight(0, -1), BAD);
        due(6, "weight", x.weight(4, 9), 1);
        due(6, "weight", x.weight(4, 0), 9);
        due(6, "weight", x.weight(0, 3), 1);
    }

    private static void notes() {
        LuteFingers x = lute(12, 50, 60);
        due(7, "pitch -1", x.note(-1, 0, 0), BAD);
        due(7, "pitch 121", x.note(121, 0, 0), BAD);
        due(7, "kind -1", x.note(5, -1, 0), BAD);
        due(7, "kind 4", x.note(5, 4, 0), BAD);
        due(7, "price -1", x.note(5, 0, -1), BAD);
        due(7, "price 101", x.note(5, 0, 101), BAD);
        due(7, "held, no tick", x.note(5, 1, 1), STATE);
        due(7, "slur, no tick", x.note(5, 2, 1), STATE);
        due(7, "BAD ahead of STATE", x.note(5, 2, 101), BAD);
        due(7, "note", x.note(0, 0, 0), 1);
        due(7, "note", x.note(120, 3, 100), 2);
        due(7, "a pitch that it has", x.note(120, 0, 1), BAD);
        due(7, "a pitch that it has, held", x.note(120, 1, 1), BAD);
        x.tick();
        due(7, "held", x.note(120, 1, 1), 1);
        due(7, "slur", x.note(7, 2, 1), 2);
        due(7, "held, no such pitch", x.note(8, 1, 1), STATE);
        due(7, "slur of its fore's pitch", x.note(0, 2, 1), 3);
        due(7, "fourth", x.note(9, 0, 1), 4);
        due(7, "fifth", x.note(10, 0, 1), FULL);
        due(7, "BAD ahead of FULL", x.note(9, 0, 1), BAD);
        due(7, "STATE ahead of FULL", x.note(10, 1, 1), STATE);
        x.tick();
        x.tick();
        due(7, "slur behind a tick without notes", x.note(5, 2, 1), STATE);
        due(7, "held behind a tick without notes", x.note(9, 1, 1), STATE);
        due(7, "without courses", new LuteFingers().note(5, 0, 1), 1);
    }

    private static void ticks() {
        LuteFingers x = new LuteFingers();
        x.note(50, 0, 1);
        due(8, "no course", x.tick(), STATE);
        due(8, "the note stays", x.count(3), 1);
        x.course(50, 5);
        for (int i = 0; i < 16; i++) due(8, "tick", x.tick(), i);
        due(8, "seventeenth", x.tick(), FULL);
        due(8, "a note for it may be told", x.note(50, 0, 1), 1);
        due(8, "seventeenth", x.tick(), FULL);
        due(8, "it stays told", x.count(3), 1);
        due(8, "the first has its note", x.told(0, 0, 0), 50);
        due(8, "the second has none", x.told(1, 0, 0), NONE);
    }

    private static void clearing() {
        LuteFingers x = lute(5, 50);
        due(9, "nothing", x.clear(), 0);
        plain(x, 50);
        plain(x, 51);
        x.note(52, 0, 1);
        due(9, "ticks", x.clear(), 2);
        due(9, "no ticks", x.count(1), 0);
        due(9, "no notes", x.count(2), 0);
        due(9, "no notes told", x.count(3), 0);
        due(9, "courses stay", x.count(0), 1);
        due(9, "no fore", x.note(51, 1, 1), STATE);
        due(9, "way", x.way(), STATE);
        plain(x, 52);
        due(9, "grips of the new tick", x.grip(0, 0, 0, 1), 2);
    }

    private static void fixing() {
        LuteFingers x = lute(12, 40, 40);
        plain(x, 42);
        due(10, "no tick", x.fix(1, 0, 0), NONE);
        due(10, "no tick", x.fix(-1, 0, 0), NONE);
        due(10, "no note", x.fix(0, 1, 0), NONE);
        due(10, "no note", x.fix(0, -1, 0), NONE);
        due(10, "no course", x.fix(0, 0, 2), NONE);
        due(10, "no course", x.fix(0, 0, -2), NONE);
        int both = x.grips(0);
        due(10, "it was to none", x.fix(0, 0, 1), 0);
        due(10, "half the grips", x.grips(0), both / 2);
        due(10, "its course", x.grip(0, 0, 0, 0), 1);
        due(10, "it was to 1", x.fix(0, 0, 0), 2);
        due(10, "its course", x.grip(0, 0, 0, 0), 0);
        due(10, "it was to 0", x.fix(0, 0, -1), 1);
        due(10, "it was to none", x.fix(0, 0, -1), 0);
        due(10, "all grips", x.grips(0), both);
    }

    private static void telling() {
        LuteFingers x = lute(12, 40, 45);
        x.note(43, 0, 7);
        x.note(45, 3, 100);
        x.tick();
        x.note(50, 2, 0);
        x.note(45, 1, 3);
        x.tick();
        x.fix(1, 1, 1);
        due(11, "pitch", x.told(0, 0, 0), 43);
        due(11, "kind", x.told(0, 1, 1), 3);
        due(11, "price", x.told(0, 1, 2), 100);
        due(11, "plain has no fore", x.told(0, 0, 3), NONE);
        due(11, "open has no fore", x.told(0, 1, 3), NONE);
        due(11, "not fixed", x.told(0, 0, 4), NONE);
        due(11, "slur's fore", x.told(1, 0, 3), 0);
        due(11, "held's fore", x.told(1, 1, 3), 1);
        due(11, "kind", x.told(1, 0, 1), 2);
        due(11, "fixed", x.told(1, 1, 4), 1);
        due(11, "what 5", x.told(0, 0, 5), NONE);
        due(11, "what -1", x.told(0, 0, -1), NONE);
        due(11, "no note", x.told(0, 2, 0), NONE);
        due(11, "no tick", x.told(2, 0, 0), NONE);
        x.note(60, 0, 1);
        due(11, "a note told is in no tick", x.told(2, 0, 0), NONE);
    }

    private static void gripShapes() {
        LuteFingers x = lute(12, 40);
        x.tick();
        due(12, "no notes", x.grips(0), 1);
        due(13, "place", x.grip(0, 0, -1, 0), 0);
        due(13, "cost", x.grip(0, 0, -1, 1), 0);
        due(13, "bar", x.grip(0, 0, -1, 2), 0);
        due(13, "no note", x.grip(0, 0, 0, 0), NONE);
        plain(x, 40);
        due(12, "open string", x.grips(1), 1);
        due(13, "place", x.grip(1, 0, -1, 0), 0);
        due(13, "finger", x.grip(1, 0, 0, 2), 0);
        plain(x, 52);
        // fret 12: finger 1 from place 11 or 12, 2 from 10 or 11, 3 from 9 or 10, 4 from 8 or 9
        due(12, "fret 12", x.grips(2), 8);
        due(13, "least place", x.grip(2, 0, -1, 0), 8);
        due(13, "its finger", x.grip(2, 0, 0, 2), 4);
        due(13, "greatest place", x.grip(2, 7, -1, 0), 12);
        due(13, "its finger", x.grip(2, 7, 0, 2), 1);
        plain(x, 41);
        due(12, "fret 1", x.grips(3), 1);
        plain(x, 53);
        due(12, "beyond the frets", x.grips(4), 0);
        plain(x, 39);
        due(12, "below the tune", x.grips(5), 0);
        kind(x, 3, 41);
        due(12, "OPEN with a fret", x.grips(6), 0);
        kind(x, 3, 40);
        due(12, "OPEN", x.grips(7), 1);
        plain(x, 40, 41);
        due(12, "two on one course", x.grips(8), 0);
        due(12, "no tick", x.grips(9), NONE);
        due(12, "no tick", x.grips(-1), NONE);
        due(13, "no tick", x.grip(9, 0, 0, 0), NONE);
        due(13, "no grip", x.grip(3, 1, 0, 0), NONE);
        due(13, "no grip", x.grip(3, -1, 0, 0), NONE);
        due(13, "no note", x.grip(3, 0, 1, 0), NONE);
        due(13, "no note", x.grip(3, 0, -2, 0), NONE);
        due(13, "what 3", x.grip(3, 0, 0, 3), NONE);
        due(13, "what -1", x.grip(3, 0, 0, -1), NONE);
        due(13, "what 3 of all", x.grip(3, 0, -1, 3), NONE);
        x.slack(1, 0);
        x.slack(2, 0);
        x.slack(3, 0);
        x.slack(4, 0);
        due(12, "fret 12 without slack", x.grips(2), 4);
        x.slack(4, 2);
        due(12, "fret 12 with slack 2 of one", x.grips(2), 6);
    }

    private static void gripOrder() {
        LuteFingers x = lute(12, 40, 42);
        plain(x, 42);
        // course 1 is open there: it comes first, place 0; then place 1 on course 0 with fingers 1 and 2, then place 2
        due(12, "how many", x.grips(0), 4);
        int[][] want = {{0, 1, 0}, {1, 0, 1}, {1, 0, 2}, {2, 0, 1}};
        for (int i = 0; i < want.length; i++) {
            due(13, "place of " + i, x.grip(0, i, -1, 0), want[i][0]);
            due(13, "course of " + i, x.grip(0, i, 0, 0), want[i][1]);
            due(13, "finger of " + i, x.grip(0, i, 0, 2), want[i][2]);
        }
        LuteFingers y = lute(12, 40, 40, 40);
        for (int f = 1; f <= 4; f++) y.slack(f, 0);
        plain(y, 41, 42);
        // place 1: fret 1 with finger 1, fret 2 with finger 2; note 0's course first, then note 1's
        due(12, "how many", y.grips(0), 6);
        int[][] courses = {{0, 1}, {0, 2}, {1, 0}, {1, 2}, {2, 0}, {2, 1}};
        for (int i = 0; i < courses.length; i++) {
            due(13, "course 0 of " + i, y.grip(0, i, 0, 0), courses[i][0]);
            due(13, "course 1 of " + i, y.grip(0, i, 1, 0), courses[i][1]);
        }
        LuteFingers z = lute(12, 40, 41);
        z.slack(1, 2);
        z.fix(plain(z, 43, 42), 0, 0);
        // note 0: fret 3 on course 0; note 1: fret 1 on course 1 or 2 on course 0 (taken)
        due(12, "how many", z.grips(0), 2);
        due(13, "finger of note 0 ahead of note 1's", z.grip(0, 0, 0, 2), 2);
        due(13, "finger of note 0 ahead of note 1's", z.grip(0, 1, 0, 2), 3);
        due(13, "fret", z.grip(0, 0, 0, 1), 3);
        due(13, "fret", z.grip(0, 0, 1, 1), 1);
        LuteFingers v = lute(12, 40, 44);
        v.slack(1, 0);
        v.slack(3, 0);
        v.slack(2, 1);
        v.slack(4, 0);
        plain(v, 46, 43);
        // note 0: fret 6 on course 0 or 2 on course 1; note 1: fret 3 on course 0: place 1, (1, fingers 2), (0, 3)
        due(12, "how many", v.grips(0), 2);
        due(13, "place", v.grip(0, 0, -1, 0), 1);
        due(13, "fingers", v.grip(0, 0, 0, 2), 2);
        due(13, "fingers", v.grip(0, 0, 1, 2), 3);
        due(13, "place", v.grip(0, 1, -1, 0), 2);
        due(13, "fingers", v.grip(0, 1, 0, 2), 1);
        due(13, "fingers", v.grip(0, 1, 1, 2), 2);
    }

    private static void gripRules() {
        LuteFingers x = lute(3, 40, 45);
        for (int f = 1; f <= 4; f++) x.slack(f, 0);
        plain(x, 43, 48);
        due(12, "one fret, no slack, no bar", x.grips(0), 0);
        x.bars(1);
        due(12, "a bar", x.grips(0), 1);
        due(13, "place", x.grip(0, 0, -1, 0), 3);
        due(13, "bar", x.grip(0, 0, -1, 2), 1);
        due(13, "cost: one finger, one bar", x.grip(0, 0, -1, 1), 2);
        due(13, "finger", x.grip(0, 0, 0, 2), 1);
        due(13, "finger", x.grip(0, 0, 1, 2), 1);
        x.weight(1, 5);
        x.weight(2, 9);
        due(13, "cost with other weights", x.grip(0, 0, -1, 1), 14);
        x.slack(1, 1);
        due(12, "a bar only at the place itself; fingers 1 and 2 beside it", x.grips(0), 2);
        due(13, "the higher course has the lower finger", x.grip(0, 0, 1, 2), 1);
        due(13, "no bar", x.grip(0, 0, -1, 2), 0);
        due(13, "cost of two fingers", x.grip(0, 0, -1, 1), 10);
        LuteFingers y = lute(12, 40, 45);
        y.weight(0, 3);
        plain(y, 42, 49);
        // frets 2 and 4: the lower finger has the lower fret
        int many = y.grips(0);
        for (int i = 0; i < many; i++) {
            due(13, "lower finger on the lower fret", y.grip(0, i, 0, 2) < y.grip(0, i, 1, 2) ? 1 : 0, 1);
            due(13, "stretch 2 of weight 3, two fingers", y.grip(0, i, -1, 1), 8);
        }
        LuteFingers u = lute(12, 40, 45);
        u.slack(1, 2);
        u.slack(2, 2);
        u.fix(plain(u, 44, 48), 0, 0);
        for (int i = 0; i < u.grips(0); i++) {
            due(13, "the higher fret has the higher finger", u.grip(0, i, 0, 2) > u.grip(0, i, 1, 2) ? 1 : 0, 1);
        }
        // place 1: 1 3, 1 4, 2 3, 2 4; place 2: 1 2, 1 3
        due(12, "how many", many, 6);
        LuteFingers z = lute(12, 40, 45, 50);
        z.bars(1);
        plain(z, 42, 47, 54);
        due(13, "a bar and another finger are two fingers", z.grip(0, lastOf(z, 0), -1, 1), 2 + 2 + 1);
        due(13, "bar", z.grip(0, lastOf(z, 0), -1, 2), 1);
    }

    private static int lastOf(LuteFingers x, int tick) {
        return x.grips(tick) - 1;
    }

    private static void spentTicks() {
        LuteFingers x = lute(12, 40, 40, 40, 40);
        plain(x, 45);
        due(12, "4 times 8 are not too many", x.grips(0), 32);
        due(13, "the last", x.grip(0, 31, -1, 0), 5);
        due(13, "the last's course", x.grip(0, 31, 0, 0), 3);
        due(13, "behind the last", x.grip(0, 32, -1, 0), NONE);
        due(15, "a way", x.way(), 1);
        x.slack(1, 2);
        due(12, "more than 32", x.grips(0), STATE);
        due(13, "SPENT", x.grip(0, 0, -1, 0), NONE);
        due(14, "SPENT has a grip", x.why(0), 0);
        due(15, "SPENT breaks", x.way(), -10);
        due(20, "SPENT has no grip", x.say(0) == 1 ? x.check() : 0, -10);
        due(21, "SPENT", x.arrange(), STATE);
        due(25, "SPENT with all", x.choose(), NONE);
        x.slack(1, 1);
        plain(x, 40, 45, 52);
        due(12, "too wide", x.grips(1), 0);
        due(21, "40 and 45 by themselves have 4 times 3 times 8", x.arrange(), STATE);
        x.clear();
        plain(x, 45);
        due(21, "32 are not too many", x.arrange(), 0);
        LuteFingers y = lute(12, 40, 40, 40, 40, 40);
        plain(y, 45, 100);
        due(12, "none of all", y.grips(0), 0);
        due(14, "why", y.why(0), 2);
        due(21, "a set of it has more than 32", y.arrange(), STATE);
        due(22, "not told", y.left(0), NONE);
    }

    private static void whys() {
        LuteFingers x = lute(12, 40, 45, 50);
        due(14, "no tick", x.why(0), NONE);
        x.tick();
        due(14, "no notes", x.why(0), 0);
        plain(x, 43, 48);
        due(14, "playable", x.why(1), 0);
        plain(x, 43, 99, 20);
        due(14, "the least mask of one note", x.why(2), 2);
        plain(x, 41, 61, 48);
        due(14, "a pair", x.why(3), 3);
        plain(x, 48, 41, 61);
        due(14, "another pair", x.why(4), 6);
        LuteFingers y = lute(12, 40, 45);
        plain(y, 46, 47, 48);
        due(14, "three on two courses", y.why(0), 7);
        plain(y, 46, 47, 48, 49);
        due(14, "of four the first three", y.why(1), 7);
        plain(y, 41, 48, 57);
        due(14, "bit 0 and bit 2", y.why(2), 5);
        due(14, "no tick", y.why(3), NONE);
        due(14, "no tick", y.why(-1), NONE);
        LuteFingers z = lute(1, 40, 45, 50, 55, 60);
        for (int f = 1; f <= 4; f++) z.slack(f, 0);
        plain(z, 41, 46);
        due(14, "two on one fret", z.why(0), 3);
        z.bars(1);
        due(14, "a bar", z.why(0), 0);
    }

    private static void ways() {
        LuteFingers x = lute(12, 40, 45);
        due(15, "no tick", x.way(), STATE);
        due(17, "none at hand", x.at(0), NONE);
        plain(x, 41);
        due(17, "none at hand", x.at(0), NONE);
        plain(x, 40);
        x.tick();
        plain(x, 57);
        // fret 1 at place 1; open; none; fret 12 on course 1: least shift to place 8 with finger 4
        due(15, "cost", x.way(), 1 + 0 + 0 + 1 + (8 - 1) + 0);
        due(31, "at hand", x.count(4), 1);
        due(31, "which", x.count(5), 0);
        due(17, "at", x.at(0), 0);
        due(17, "at", x.at(2), 0);
        due(17, "at", x.at(3), 0);
        due(17, "no tick", x.at(4), NONE);
        due(17, "no tick", x.at(-1), NONE);
        x.weight(3, 2);
        due(15, "shift across two ticks without a place", x.way(), 2 + 14);
        x.weight(4, 9);
        due(15, "no crossing across a tick without notes", x.way(), 2 + 14);
        LuteFingers y = lute(12, 40, 45);
        y.weight(4, 7);
        plain(y, 40);
        plain(y, 45);
        // course 0 fret 5 has cost 1, course 1 open has crossing 7
        due(15, "a fret rather than a crossing", y.way(), 1);
        due(13, "on course 0", y.grip(1, y.at(1), 0, 0), 0);
        y.weight(4, 0);
        due(15, "a crossing rather than a fret", y.way(), 0);
        due(17, "open", y.at(1), 0);
        LuteFingers z = lute(12, 40, 45);
        plain(z, 42);
        due(15, "of one cost the least number", z.way(), 1);
        due(17, "number", z.at(0), 0);
    }

    private static void ties() {
        LuteFingers x = lute(12, 40, 45);
        x.weight(1, 0);
        plain(x, 45);
        x.note(45, 1, 1);
        x.note(40, 0, 1);
        x.tick();
        // 45 is open on course 1 or fret 5 on course 0; with 40 it must be on course 1
        due(15, "held", x.way(), 0);
        due(13, "course ahead", x.grip(0, x.at(0), 0, 0), 1);
        x.fix(0, 0, 0);
        due(15, "held where it can't be", x.way(), -11);
        LuteFingers y = lute(12, 40);
        plain(y, 45);
        kind(y, 1, 45);
        plain(y, 49);
        y.weight(3, 9);
        due(15, "a held note keeps its finger", y.way(), 3);
        due(13, "one finger", y.grip(0, y.at(0), 0, 2), y.grip(1, y.at(1), 0, 2));
        due(13, "the place that reaches both", y.grip(0, y.at(0), -1, 0), 5);
        LuteFingers z = lute(12, 40, 45);
        plain(z, 45);
        kind(z, 2, 46);
        z.fix(1, 0, 1);
        due(15, "slur", z.way(), 1);
        due(13, "slur's fore on the slur's course", z.grip(0, z.at(0), 0, 0), 1);
        z.fix(0, 0, 0);
        due(15, "slur on another course", z.way(), -11);
        z.fix(1, 0, -1);
        due(15, "slur on course 0", z.way(), 2);
        LuteFingers w = lute(12, 40, 45);
        plain(w, 46);
        w.note(47, 2, 1);
        w.note(48, 2, 1);
        w.tick();
        due(12, "grips by themselves", w.grips(1) > 0 ? 1 : 0, 1);
        due(15, "two slurs of one fore want one course", w.way(), -11);
        w.fix(1, 0, 0);
        w.fix(1, 1, 1);
        due(15, "whichever courses these are", w.way(), -11);
        LuteFingers v = lute(12, 40, 45);
        plain(v, 45, 40);
        v.note(40, 1, 1);
        v.note(47, 2, 1);
        v.tick();
        due(15, "held of note 1, slur of note 0", v.way(), 0 + 1 + 1);
    }

    private static void breaks() {
        LuteFingers x = lute(12, 40, 45);
        plain(x, 99);
        plain(x, 40);
        due(15, "break at 0", x.way(), -10);
        LuteFingers y = lute(12, 40, 45);
        plain(y, 40);
        plain(y, 41);
        kind(y, 1, 41);
        plain(y, 99);
        plain(y, 98);
        due(15, "break at 3", y.way(), -13);
        due(31, "none at hand", y.count(4), 0);
        LuteFingers z = lute(12, 40, 45);
        for (int i = 0; i < 15; i++) z.tick();
        plain(z, 99);
        due(15, "break at 15", z.way(), -25);
    }

    private static void nexts() {
        LuteFingers x = lute(12, 40);
        due(16, "none at hand", x.next(), STATE);
        plain(x, 43);
        due(16, "none at hand", x.next(), STATE);
        due(15, "first", x.way(), 1);
        // fret 3: places 1 (2, 3), 2 (1, 2), 3 (1)
        int many = x.grips(0);
        due(12, "how many", many, 5);
        for (int i = 1; i < many; i++) {
            due(16, "next", x.next(), 1);
            due(17, "at", x.at(0), i);
            due(31, "which", x.count(5), i);
        }
        due(16, "no other", x.next(), NONE);
        due(17, "that at hand stays", x.at(0), many - 1);
        due(31, "which", x.count(5), many - 1);
        due(15, "first again", x.way(), 1);
        due(31, "which", x.count(5), 0);
        due(16, "next again", x.next(), 1);
        plain(x, 40);
        x.way();
        plain(x, 45);
        int before = x.way();
        for (int i = 1; i < 8; i++) {
            int cost = x.next();
            due(16, "costs do not fall", cost >= before ? 1 : 0, 1);
            before = cost;
        }
        due(31, "the eighth", x.count(5), 7);
        due(16, "behind the eighth", x.next(), STATE);
        due(31, "the eighth stays", x.count(5), 7);
        LuteFingers y = lute(12, 40);
        plain(y, 52);
        y.way();
        for (int i = 1; i < 8; i++) y.next();
        due(31, "the eighth of eight", y.count(5), 7);
        due(16, "STATE where there is no other one too", y.next(), STATE);
    }

    /** Ways of one cost come by the numbers of their grips, tick by tick, across ticks without a place too. */
    private static void places() {
        LuteFingers x = lute(12, 40, 40);
        x.weight(1, 0);
        x.weight(3, 0);
        x.weight(4, 0);
        plain(x, 40);
        plain(x, 40);
        plain(x, 40);
        x.way();
        for (int i = 0; i < 8; i++) {
            for (int t = 0; t < 3; t++) due(16, "way " + i + " tick " + t, x.at(t), i >> (2 - t) & 1);
            x.next();
        }
        x.weight(4, 1);
        int[][] want = {{0, 0, 0}, {1, 1, 1}, {0, 0, 1}, {0, 1, 1}, {1, 0, 0}, {1, 1, 0}, {0, 1, 0}, {1, 0, 1}};
        int[] costs = {0, 0, 1, 1, 1, 1, 2, 2};
        for (int i = 0; i < 8; i++) {
            due(16, "cost of " + i, i == 0 ? x.way() : x.next(), costs[i]);
            for (int t = 0; t < 3; t++) due(16, "way " + i + " tick " + t, x.at(t), want[i][t]);
        }
    }

    private static void ranks() {
        LuteFingers x = lute(12, 40, 45);
        due(18, "none at hand", x.rank(1), STATE);
        plain(x, 41);
        x.tick();
        plain(x, 57);
        plain(x, 57, 51);
        due(18, "none at hand", x.rank(0), STATE);
        x.fix(3, 0, 1);
        int cost = x.way();
        due(18, "n 0", x.rank(0), BAD);
        due(18, "n 5", x.rank(5), BAD);
        due(18, "n -1", x.rank(-1), BAD);
        due(18, "all", x.rank(4), cost);
        // frets 12 and 11 with two fingers
        due(18, "the dearest grip", x.rank(1), 3);
        due(18, "two of them", x.rank(2), 4);
        due(18, "three of them", x.rank(3), 1 + 7 + 1 > 4 ? 9 : 4);
        x.weight(3, 0);
        x.way();
        due(18, "without shifts", x.rank(3), 4);
        LuteFingers y = lute(12, 40, 50);
        y.weight(4, 9);
        plain(y, 40);
        plain(y, 50);
        y.fix(1, 0, 1);
        plain(y, 40);
        due(15, "crossings", y.way(), 18);
        due(18, "no crossing in one", y.rank(1), 0);
        due(18, "one in two", y.rank(2), 9);
        due(18, "two in three", y.rank(3), 18);
    }

    private static void checks() {
        LuteFingers x = lute(12, 40, 45);
        due(19, "below 0", x.say(-1), BAD);
        due(19, "say", x.say(0), 1);
        due(20, "no tick", x.check(), STATE);
        due(19, "the row stays with STATE", x.say(3), 2);
        for (int i = 3; i <= 16; i++) due(19, "say", x.say(1000000), i);
        due(19, "seventeenth", x.say(0), FULL);
        due(19, "BAD ahead of FULL", x.say(-1), BAD);
        plain(x, 41);
        due(20, "it goes on", x.check(), -26);
        due(20, "the row is empty", x.check(), -10);
        x.say(1);
        due(20, "no such grip", x.check(), -10);
        x.say(0);
        due(20, "a way", x.check(), 1);
        due(31, "none comes to hand", x.count(4), 0);
        kind(x, 1, 41);
        plain(x, 43);
        x.say(0);
        x.say(0);
        due(20, "it ends", x.check(), -12);
        x.say(0);
        x.say(0);
        x.say(4);
        due(20, "a way: fret 3 at place 3", x.check(), 1 + 1 + 1 + 2);
        x.say(0);
        x.say(0);
        x.say(5);
        due(20, "no such grip", x.check(), -12);
        x.say(0);
        x.say(7);
        x.say(7);
        x.say(7);
        due(20, "the first tick at which it is none", x.check(), -11);
        kind(x, 1, 43);
        x.say(0);
        x.say(0);
        x.say(0);
        x.say(1);
        due(20, "held with another finger", x.check(), -13);
        x.say(0);
        x.say(0);
        x.say(0);
        x.say(2 + 1);
        due(20, "held with its finger, another place", x.check(), 4 + 1);
        x.clear();
        plain(x, 46);
        kind(x, 2, 47);
        // 46: course 1 at place 1, then course 0 at place 2; 47: course 1 at places 1, 1, 2, then course 0 at place 3
        due(20, "slur on one course", sayTwo(x, 0, 0), 2);
        due(20, "slur on another course", sayTwo(x, 0, 3), -11);
        due(20, "slur on one course", sayTwo(x, 1, 3), 2 + 1);
        due(20, "slur on another course", sayTwo(x, 1, 0), -11);
    }

    private static int sayTwo(LuteFingers x, int one, int two) {
        x.say(one);
        x.say(two);
        return x.check();
    }

    private static void arranging() {
        LuteFingers x = lute(12, 40, 45);
        due(21, "no tick", x.arrange(), STATE);
        due(22, "not told", x.left(0), NONE);
        due(23, "not told", x.rest(), NONE);
        plain(x, 41);
        due(22, "not told", x.left(0), NONE);
        due(23, "not told", x.rest(), NONE);
        due(21, "nothing is left", x.arrange(), 0);
        due(22, "nothing is left", x.left(0), 0);
        due(23, "the first way", x.rest(), 1);
        due(22, "no tick", x.left(1), NONE);
        due(22, "no tick", x.left(-1), NONE);
        x.clear();
        x.note(46, 0, 5);
        x.note(47, 0, 2);
        x.note(48, 0, 3);
        x.tick();
        due(21, "the cheapest of three on two courses", x.arrange(), 2);
        due(22, "it", x.left(0), 2);
        x.clear();
        x.note(46, 0, 2);
        x.note(47, 0, 2);
        x.note(48, 0, 2);
        x.tick();
        due(21, "of one price", x.arrange(), 2);
        due(22, "the least mask", x.left(0), 1);
        x.clear();
        x.note(46, 0, 0);
        x.note(47, 0, 0);
        x.note(48, 0, 0);
        x.note(49, 0, 1);
        x.tick();
        due(21, "of price 0 no more than must be", x.arrange(), 0);
        due(22, "two of them", x.left(0), 3);
        LuteFingers y = lute(12, 40, 45, 50);
        y.note(41, 0, 0);
        y.note(47, 0, 0);
        y.note(62, 0, 0);
        y.tick();
        // the third is too far from each of the others
        due(21, "of price 0", y.arrange(), 0);
        due(22, "one note rather than two of a lesser mask", y.left(0), 4);
        x.clear();
        x.note(99, 0, 100);
        x.note(98, 0, 100);
        x.note(97, 0, 100);
        x.note(96, 0, 100);
        for (int i = 0; i < 16; i++) {
            x.tick();
            for (int k = 0; k < 4; k++) x.note(96 + k, 0, 100);
        }
        due(21, "all of them", x.arrange(), 6400);
        due(22, "all of the last", x.left(15), 15);
        due(23, "nothing costs nothing", x.rest(), 0);
        due(31, "arranging brings no way to hand", x.count(4), 0);
    }

    private static void arrangingTies() {
        LuteFingers x = lute(12, 40, 45);
        x.note(46, 0, 1);
        x.note(80, 0, 1);
        x.tick();
        x.note(80, 1, 50);
        x.note(47, 2, 9);
        x.tick();
        due(21, "a held note goes with its fore", x.arrange(), 51);
        due(22, "fore", x.left(0), 2);
        due(22, "held", x.left(1), 1);
        x.clear();
        x.note(80, 0, 1);
        x.note(46, 0, 1);
        x.tick();
        x.note(47, 2, 9);
        x.tick();
        due(21, "a slur goes with note 0, though another is first then", x.arrange(), 10);
        due(22, "fore", x.left(0), 1);
        due(22, "slur", x.left(1), 1);
        x.clear();
        x.note(46, 0, 1);
        x.tick();
        x.note(47, 2, 1);
        x.note(48, 2, 1);
        x.tick();
        due(21, "two slurs of one fore", x.arrange(), 1);
        due(22, "the first tick's least mask", x.left(0), 0);
        due(22, "then the second's", x.left(1), 1);
        x.clear();
        x.note(41, 0, 3);
        x.tick();
        x.note(45, 0, 2);
        x.fix(0, 0, -1);
        x.tick();
        x.note(45, 1, 2);
        x.note(40, 0, 5);
        x.tick();
        x.fix(1, 0, 0);
        due(15, "held on course 0 beside 40", x.way(), -12);
        due(21, "the held one is left, its fore stays", x.arrange(), 2);
        due(22, "tick 1", x.left(1), 0);
        due(22, "tick 2", x.left(2), 1);
    }

    private static void restOfSome() {
        LuteFingers x = lute(12, 40, 50);
        x.weight(4, 5);
        x.note(20, 0, 1);
        x.note(50, 3, 9);
        x.tick();
        x.note(40, 3, 1);
        x.tick();
        due(21, "note 0 is left", x.arrange(), 1);
        due(23, "the first that is not left crosses", x.rest(), 5);
        x.clear();
        x.note(20, 0, 1);
        x.tick();
        x.note(50, 3, 9);
        x.tick();
        x.note(20, 0, 1);
        x.tick();
        x.note(40, 3, 9);
        x.tick();
        due(21, "two are left", x.arrange(), 2);
        due(23, "no crossing over a tick without one", x.rest(), 0);
        due(15, "no way of all", x.way(), -10);
        due(23, "way() leaves it told", x.rest(), 0);
    }

    private static void tunings() {
        LuteFingers x = lute(12, 40, 45);
        due(24, "no tuning", x.tuning(4, 0, 1), NONE);
        due(24, "no tuning", x.tuning(-1, 0, 1), NONE);
        due(24, "no course", x.tuning(0, 2, 1), NONE);
        due(24, "no course", x.tuning(0, -1, 1), NONE);
        due(24, "NONE ahead of BAD", x.tuning(0, 2, 100), NONE);
        due(24, "pitch 100", x.tuning(0, 1, 100), BAD);
        due(24, "pitch -1", x.tuning(3, 0, -1), BAD);
        due(24, "what it was told with", x.tuning(0, 0, 99), 40);
        due(24, "what it had", x.tuning(0, 0, 0), 99);
        due(24, "another", x.tuning(3, 1, 46), 45);
        x.tune(1, 50);
        due(24, "tune() does not change it", x.tuning(2, 1, 47), 45);
        due(3, "tuning() does not change the tune", x.tune(0, 41), 40);
        x.course(60, 3);
        due(24, "a later course", x.tuning(1, 2, 61), 60);
    }

    private static void choosing() {
        LuteFingers x = lute(12, 40);
        due(25, "no tick", x.choose(), STATE);
        plain(x, 45);
        due(25, "all cost the same", x.choose(), 0);
        x.tuning(2, 0, 45);
        due(25, "open costs least", x.choose(), 2);
        x.tuning(3, 0, 45);
        due(25, "of several the first", x.choose(), 2);
        x.tuning(0, 0, 99);
        x.tuning(2, 0, 99);
        x.tuning(3, 0, 99);
        due(25, "the only one with a way", x.choose(), 1);
        x.tuning(1, 0, 99);
        due(25, "none", x.choose(), NONE);
        due(15, "the tune stays", x.way(), 1);
        int grip = x.at(0);
        x.tuning(1, 0, 45);
        due(25, "one", x.choose(), 1);
        due(17, "the way at hand stays", x.at(0), grip);
        due(16, "its next one too", x.next(), 1);
        due(13, "the grips too", x.grip(0, 0, 0, 1), 5);
        x.tune(0, 45);
        due(25, "tune() does not matter", x.choose(), 1);
        due(24, "the tuning stays", x.tuning(1, 0, 45), 45);
    }

    private static void tapes() {
        LuteFingers x = new LuteFingers();
        due(26, "-1", x.feed(-1), BAD);
        due(26, "256", x.feed(256), BAD);
        for (int i = 0; i < 400; i++) due(26, "feed", x.feed(i % 256), i + 1);
        due(28, "byte 255", x.tape(255), 255);
        due(28, "byte 256", x.tape(256), 0);
        due(28, "behind the last", x.tape(400), NONE);
        due(28, "-1", x.tape(-1), NONE);
        due(27, "wipe", x.wipe(), 400);
        due(27, "wipe again", x.wipe(), 0);
        due(28, "empty", x.tape(0), NONE);
        // 600 bytes within 512 calls: the signs of 16 ticks, then the others
        LuteFingers y = lute(0, 40, 41, 42, 43, 44, 45);
        for (int i = 0; i < 16; i++) y.tick();
        y.way();
        due(29, "write", y.write(), 128);
        for (int i = 129; i <= 600; i++) due(26, "feed", y.feed(7), i);
        due(26, "601st", y.feed(7), FULL);
        due(26, "BAD ahead of FULL", y.feed(256), BAD);
        due(27, "wipe", y.wipe(), 600);
    }

    private static void writing() {
        LuteFingers x = lute(12, 40, 45, 50);
        due(29, "none at hand", x.write(), STATE);
        plain(x, 45, 62);
        x.tick();
        plain(x, 41, 46);
        x.feed(1);
        due(29, "none at hand", x.write(), STATE);
        due(28, "the tape stays", x.tape(0), 1);
        x.bars(1);
        x.way();
        due(29, "bytes", x.write(), 7 + 5 + 7);
        due(29, "signs", taped(x).equals("-am 04\n--- \nbb- 11\n") ? 1 : 0, 1);
        due(29, "again: in place of what was", x.write(), 19);
        due(30, "read back", x.read(), 3);
        due(28, "the tape is empty", x.tape(0), NONE);
        due(31, "notes", x.count(2), 4);
        x.way();
        x.write();
        due(29, "the same signs", taped(x).equals("-am 04\n--- \nbb- 11\n") ? 1 : 0, 1);
        LuteFingers y = lute(12, 40, 41, 42, 43, 44, 45);
        for (int i = 0; i < 16; i++) plain(y, 40, 41, 42, 43);
        y.way();
        due(29, "the longest", y.write(), 16 * 12);
        due(30, "it can be read", y.read(), 16);
    }

    private static void reading() {
        LuteFingers x = new LuteFingers();
        feed(x, "a 0\n");
        due(30, "no course", x.read(), STATE);
        due(30, "the tape stays", x.wipe(), 4);
        x.course(40, 3);
        x.course(45, 3);
        x.note(50, 0, 1);
        due(30, "read", readText(x, "ab 01\n-- \nd- 4\n"), 3);
        due(30, "notes told go", x.count(3), 0);
        due(30, "notes", x.count(2), 3);
        due(30, "pitch", x.told(0, 0, 0), 40);
        due(30, "pitch", x.told(0, 1, 0), 46);
        due(30, "kind", x.told(0, 1, 1), 0);
        due(30, "price", x.told(0, 1, 2), 1);
        due(30, "fore", x.told(0, 1, 3), NONE);
        due(30, "fixed", x.told(0, 1, 4), 1);
        due(30, "no notes", x.told(1, 0, 0), NONE);
        due(30, "pitch", x.told(2, 0, 0), 43);
        due(30, "fixed", x.told(2, 0, 4), 0);
        x.tune(0, 30);
        due(30, "the tune as it is", readText(x, "b- 1\n"), 1);
        due(30, "pitch", x.told(0, 0, 0), 31);
        due(30, "held of what was read", x.note(31, 1, 1), 1);
        due(30, "nothing to read", readText(x, ""), 0);
        due(30, "no tick", x.count(1), 0);
    }

    private static void readingFaults() {
        String[] texts = {"e- 1\n", "-e 1\n", "`- 0\n", "A- 0\n", "a", "a-", "a- ", "a- 0", "a-0\n", "a-  \n", "a- 1\n",
            "b- 0\n", "b- 5\n", "b- /\n", "b- 1 \n", "ab 0\n", "ab 01\r\n", "-- 0\n", "--\n", "\n", "a- 0\n\n",
            "a- 0\nf", "-- \n--", "-- \n-- \n ", "a-a 0\n", "dd 12"};
        int[] places = {0, 1, 0, 0, 1, 2, 3, 4, 2, 3, 3, 3, 3, 3, 4, 4, 5, 3, 2, 0, 5, 5, 6, 8, 2, 5};
        for (int i = 0; i < texts.length; i++) {
            LuteFingers x = lute(3, 40, 45);
            plain(x, 41);
            x.note(42, 0, 1);
            due(30, "fault in text " + i, readText(x, texts[i]), -10 - places[i]);
            due(30, "the tape is empty", x.wipe(), 0);
            due(30, "the piece stays", x.count(1) * 100 + x.count(2) * 10 + x.count(3), 111);
            due(30, "the piece stays", x.told(0, 0, 0), 41);
        }
        LuteFingers y = lute(5, 40, 41, 45, 50, 55, 60);
        due(30, "two letters of one pitch", readText(y, "ba---- 10\n"), -11);
        due(30, "two of one pitch, not one behind the other", readText(y, "f-a--- 10\n"), -12);
        due(30, "one pitch in two lines", readText(y, "b----- 1\n-a---- 0\n"), 2);
        due(30, "a fifth letter", readText(y, "a-aaaa 00000\n"), -15);
        due(30, "four letters", readText(y, "a-aaa- 0000\n"), 1);
        LuteFingers z = lute(0, 40);
        StringBuilder lines = new StringBuilder();
        for (int i = 0; i < 16; i++) lines.append("a 0\n");
        due(30, "16 lines", readText(z, lines.toString()), 16);
        due(30, "17 lines", readText(z, lines + "a 0\n"), -10 - 64);
        due(30, "a 17th begun", readText(z, lines + "a"), -10 - 64);
        due(30, "the piece stays", z.count(1), 16);
        due(30, "b where there is no fret", readText(z, "b 1\n"), -10);
    }

    private static void counting() {
        LuteFingers x = lute(12, 40, 45);
        plain(x, 41, 47);
        plain(x, 41);
        x.note(40, 0, 1);
        due(31, "courses", x.count(0), 2);
        due(31, "ticks", x.count(1), 2);
        due(31, "notes", x.count(2), 3);
        due(31, "notes told", x.count(3), 1);
        due(31, "at hand", x.count(4), 0);
        due(31, "which", x.count(5), NONE);
        x.way();
        due(31, "at hand", x.count(4), 1);
        due(31, "which", x.count(5), 0);
        due(16, "one way alone", x.next(), NONE);
        due(31, "which", x.count(5), 0);
        // the note 40 that was told is in this tick, too
        plain(x, 48);
        x.way();
        x.next();
        due(31, "at hand", x.count(4), 1);
        due(31, "which", x.count(5), 1);
        due(31, "what 6", x.count(6), NONE);
        due(31, "what -1", x.count(-1), NONE);
    }

    /** Which calls end what way() and arrange() told, and which do not. */
    private static void toldNoMore() {
        for (int act = 0; act < 26; act++) {
            LuteFingers x = lute(12, 40, 45);
            plain(x, 41);
            plain(x, 43);
            x.note(42, 0, 1);
            x.way();
            x.next();
            x.arrange();
            x.feed(200);
            boolean ends = doAct(x, act);
            due(15, "a way at hand behind act " + act, x.count(4), ends ? 0 : 1);
            due(16, "which behind act " + act, x.count(5), ends ? NONE : act == 9 ? 0 : act == 10 ? 2 : 1);
            due(17, "at() behind act " + act, x.at(0), ends ? NONE : 0);
            due(22, "left() behind act " + act, x.left(1), ends ? NONE : 0);
            due(23, "rest() behind act " + act, x.rest() == NONE ? 1 : 0, ends ? 1 : 0);
        }
    }

    /** Tells whether what was told is told no more behind this. */
    private static boolean doAct(LuteFingers x, int act) {
        switch (act) {
            case 0: x.tune(1, 45); return true;
            case 1: x.slack(1, 1); return true;
            case 2: x.bars(0); return true;
            case 3: x.weight(0, 1); return true;
            case 4: x.tick(); return true;
            case 5: x.clear(); return true;
            case 6: x.fix(0, 0, -1); return true;
            // no such byte can be there: a FAULT is none of the refusals NONE, BAD, STATE, FULL
            case 7: x.read(); return true;
            case 8: x.wipe(); x.read(); return true;
            case 9: x.way(); return false;
            case 10: x.next(); return false;
            case 11: x.arrange(); return false;
            case 12: x.choose(); return false;
            case 13: x.tuning(0, 0, 50); return false;
            case 14: x.note(50, 0, 1); return false;
            case 15: x.tune(2, 45); x.tune(0, 100); return false;
            case 16: x.slack(0, 1); x.slack(1, 3); return false;
            case 17: x.bars(2); return false;
            case 18: x.weight(5, 1); x.weight(0, 10); return false;
            case 19: x.course(50, 5); x.course(50, 50); return false;
            case 20: x.fix(2, 0, 0); x.fix(0, 0, 2); return false;
            case 21: x.say(0); x.check(); return false;
            case 22: x.write(); return false;
            case 23: x.wipe(); x.feed(1); return false;
            case 24: x.grips(0); x.grip(0, 0, 0, 0); x.why(0); return false;
            default: x.rank(1); x.left(0); x.rest(); x.told(0, 0, 0); return false;
        }
    }
}

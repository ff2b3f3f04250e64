/** Parts 1 and 2 of "Terms" and promises 1 to 14: each sentence that names a bound, on both sides of it. */
public final class BoundsOfGripsTest {
    private static final int NONE = -1, BAD = -2, STATE = -3, FULL = -4;
    private static final int LEAST = Integer.MIN_VALUE, MOST = Integer.MAX_VALUE;
    private static String sentence = "";
    private static int sentences = 0;
    private static int wrong = 0;

    private static void sentence(String words) {
        sentence = words;
        sentences++;
    }

    private static void due(String call, int got, int want) {
        if (got == want) return;
        wrong++;
        if (wrong > 30) return;
        System.out.println("\"" + sentence + "\": " + call + " answered " + got + ", due is " + want);
    }

    public static void main(String[] args) {
        newObject();
        sixCourses();
        tuneRange();
        fretRange();
        pitchesOfCourse();
        courseRefusals();
        tuneRefusals();
        slackRange();
        barsRange();
        weightRange();
        noteRange();
        fourNotes();
        onePitch();
        foreOfHeld();
        foreOfSlur();
        foreOfSeventeenth();
        noteRefusals();
        sixteenTicks();
        tickRefusals();
        tickWithoutNotes();
        clearing();
        fixing();
        telling();
        oneCourseEach();
        openFinger();
        reachOfFingers();
        slackOfOneFinger();
        placeTwelve();
        openNotes();
        fixedNotes();
        barAtItsPlace();
        barOfFingerOne();
        fingersInOrder();
        orderOfGrips();
        thirtyTwoGrips();
        costOfGrip();
        gripNumbers();
        leastSets();
        System.out.println(sentences + " sentences");
        System.out.println(wrong == 0 ? "all answers are as due" : wrong + " answers are not as due");
        if (wrong != 0) System.exit(1);
    }

    private static LuteFingers lute(int frets, int... tunes) {
        LuteFingers x = new LuteFingers();
        for (int tune : tunes) x.course(tune, frets);
        return x;
    }

    private static LuteFingers withoutSlack(LuteFingers x) {
        for (int f = 1; f <= 4; f++) x.slack(f, 0);
        return x;
    }

    private static int plain(LuteFingers x, int... pitches) {
        for (int pitch : pitches) x.note(pitch, 0, 1);
        return x.tick();
    }

    private static int kind(LuteFingers x, int pitch, int kind) {
        x.note(pitch, kind, 1);
        return x.tick();
    }

    /** One digit a note: the fingers of a grip. */
    private static int fingers(LuteFingers x, int tick, int i, int notes) {
        int digits = 0;
        for (int n = 0; n < notes; n++) digits = digits * 10 + x.grip(tick, i, n, 2);
        return digits;
    }

    private static int courses(LuteFingers x, int tick, int i, int notes) {
        int digits = 0;
        for (int n = 0; n < notes; n++) digits = digits * 10 + x.grip(tick, i, n, 0);
        return digits;
    }

    // ---- part 1, promises 1 to 11

    private static void newObject() {
        sentence("Promise 1: No COURSES, no TICKS, an empty TAPE");
        LuteFingers x = new LuteFingers();
        int[] counts = {0, 0, 0, 0, 0, NONE};
        for (int i = 0; i < counts.length; i++) due("count(" + i + ")", x.count(i), counts[i]);
        due("tune(0, 0)", x.tune(0, 0), NONE);
        due("grips(0)", x.grips(0), NONE);
        due("tape(0)", x.tape(0), NONE);
        due("wipe()", x.wipe(), 0);
        due("say(0): the row is empty", x.say(0), 1);
        due("feed(0): the tape is empty", x.feed(0), 1);
        due("course: the first is 0", x.course(0, 0), 0);
        due("tick: the first is 0", x.tick(), 0);
    }

    private static void sixCourses() {
        sentence("COURSES are numbered from 0 on, 6 at most");
        LuteFingers x = new LuteFingers();
        for (int i = 0; i < 6; i++) {
            due("count(0)", x.count(0), i);
            due("tune of the next", x.tune(i, 50), NONE);
            due("course", x.course(40 + i, 5), i);
            due("tune of it", x.tune(i, 50 + i), 40 + i);
        }
        due("the seventh", x.course(40, 5), FULL);
        due("count(0)", x.count(0), 6);
        due("tune(6, 50)", x.tune(6, 50), NONE);
        due("tune(5, 50)", x.tune(5, 50), 55);
    }

    private static void tuneRange() {
        sentence("a TUNE (a PITCH, 0 .. 99)");
        LuteFingers x = lute(5, 40);
        for (int pitch : new int[] {LEAST, LEAST + 1, -100, -1, 100, 101, 120, 256, MOST}) {
            due("course(" + pitch + ", 5)", x.course(pitch, 5), BAD);
            due("tune(0, " + pitch + ")", x.tune(0, pitch), BAD);
            due("tuning(0, 0, " + pitch + ")", x.tuning(0, 0, pitch), BAD);
        }
        due("count(0)", x.count(0), 1);
        due("course(0, 5)", x.course(0, 5), 1);
        due("course(99, 5)", x.course(99, 5), 2);
        due("tune(0, 0)", x.tune(0, 0), 40);
        due("tune(0, 99)", x.tune(0, 99), 0);
        due("tune(0, 99)", x.tune(0, 99), 99);
        due("tuning(0, 0, 0)", x.tuning(0, 0, 0), 40);
        due("tuning(0, 0, 99)", x.tuning(0, 0, 99), 0);
        due("tuning(0, 0, 99)", x.tuning(0, 0, 99), 99);
        due("tuning(3, 1, 1)", x.tuning(3, 1, 1), 0);
        due("tuning(3, 2, 1)", x.tuning(3, 2, 1), 99);
    }

    private static void fretRange() {
        sentence("FRETS, 0 .. 12");
        LuteFingers x = new LuteFingers();
        for (int frets : new int[] {LEAST, -13, -1, 13, 14, 256, MOST}) {
            due("course(40, " + frets + ")", x.course(40, frets), BAD);
            due("course(100, " + frets + ")", x.course(100, frets), BAD);
        }
        due("count(0)", x.count(0), 0);
        due("course(40, 0)", x.course(40, 0), 0);
        due("course(70, 12)", x.course(70, 12), 1);
        int[] pitches = {39, 40, 41, 69, 70, 71, 81, 82, 83};
        boolean[] there = {false, true, false, false, true, true, true, true, false};
        for (int i = 0; i < pitches.length; i++) {
            due("grips of pitch " + pitches[i], x.grips(plain(x, pitches[i])) > 0 ? 1 : 0, there[i] ? 1 : 0);
        }
        due("fret 12", x.grip(7, 0, 0, 1), 12);
    }

    private static void pitchesOfCourse() {
        sentence("it gives the PITCHES TUNE + x for x from 0 (OPEN) to FRETS");
        LuteFingers x = new LuteFingers();
        x.course(0, 12);
        x.course(99, 12);
        int[] pitches = {0, 1, 12, 13, 98, 99, 100, 111, 112, 120};
        int[] courses = {0, 0, 0, NONE, NONE, 1, 1, 1, NONE, NONE};
        int[] frets = {0, 1, 12, NONE, NONE, 0, 1, 12, NONE, NONE};
        for (int i = 0; i < pitches.length; i++) {
            plain(x, pitches[i]);
            due("course of pitch " + pitches[i], x.grip(i, 0, 0, 0), courses[i]);
            due("fret of pitch " + pitches[i], x.grip(i, 0, 0, 1), frets[i]);
        }
        due("tune(1, 0)", x.tune(1, 0), 99);
        due("grips of pitch 111 now", x.grips(7), 0);
        due("grips of pitch 0 on both", x.grips(0), 2);
    }

    private static void courseRefusals() {
        sentence("Promise 2: BAD; STATE: there are TICKS; FULL");
        LuteFingers x = lute(5, 40);
        x.tick();
        due("course with a tick", x.course(45, 5), STATE);
        due("wrong tune, with a tick", x.course(100, 5), BAD);
        due("wrong frets, with a tick", x.course(40, 13), BAD);
        due("count(0)", x.count(0), 1);
        due("clear()", x.clear(), 1);
        due("course without ticks", x.course(45, 5), 1);
        for (int i = 2; i < 6; i++) x.course(50, 5);
        due("the seventh", x.course(50, 5), FULL);
        due("wrong tune of the seventh", x.course(-1, 5), BAD);
        due("wrong frets of the seventh", x.course(50, -1), BAD);
        x.note(50, 0, 1);
        due("notes told are no tick", x.course(50, 5), FULL);
        x.tick();
        due("the seventh, with a tick", x.course(50, 5), STATE);
        due("wrong, the seventh, with a tick", x.course(50, MOST), BAD);
    }

    private static void tuneRefusals() {
        sentence("Promise 3: NONE; BAD");
        LuteFingers none = new LuteFingers();
        due("tune(0, 5) without courses", none.tune(0, 5), NONE);
        LuteFingers x = lute(5, 40, 45);
        for (int course : new int[] {LEAST, -2, -1, 2, 3, 6, MOST}) {
            due("tune(" + course + ", 5)", x.tune(course, 5), NONE);
            due("tune(" + course + ", 100)", x.tune(course, 100), NONE);
        }
        due("tune(1, 100)", x.tune(1, 100), BAD);
        due("tune(0, 40)", x.tune(0, 40), 40);
        due("tune(1, 46)", x.tune(1, 46), 45);
        x.tick();
        due("tune() with ticks", x.tune(1, 45), 46);
    }

    private static void slackRange() {
        sentence("FINGERS 1 .. 4 have a SLACK each, 0 .. 2 (1 at first); promise 4: NONE; BAD");
        LuteFingers x = new LuteFingers();
        for (int finger : new int[] {LEAST, -1, 0, 5, 6, MOST}) {
            due("slack(" + finger + ", 1)", x.slack(finger, 1), NONE);
            due("slack(" + finger + ", 3)", x.slack(finger, 3), NONE);
        }
        for (int s : new int[] {LEAST, -2, -1, 3, 4, MOST}) {
            due("slack(1, " + s + ")", x.slack(1, s), BAD);
            due("slack(4, " + s + ")", x.slack(4, s), BAD);
        }
        for (int f = 1; f <= 4; f++) {
            due("slack(" + f + ", 0)", x.slack(f, 0), 1);
            due("slack(" + f + ", 2)", x.slack(f, 2), 0);
            due("slack(" + f + ", 1)", x.slack(f, 1), 2);
        }
    }

    private static void barsRange() {
        sentence("BARS may be, or not (not at first); promise 5: (1) or not (0): BAD");
        LuteFingers x = withoutSlack(lute(5, 40, 45));
        plain(x, 43, 48);
        due("grips without bars", x.grips(0), 0);
        for (int may : new int[] {LEAST, -2, -1, 2, 3, MOST}) due("bars(" + may + ")", x.bars(may), BAD);
        due("grips behind refusals", x.grips(0), 0);
        due("bars(0)", x.bars(0), 0);
        due("bars(1)", x.bars(1), 0);
        due("grips with bars", x.grips(0), 1);
        for (int may : new int[] {LEAST, -1, 2, MOST}) due("bars(" + may + ")", x.bars(may), BAD);
        due("grips with bars", x.grips(0), 1);
        due("bars(1)", x.bars(1), 1);
        due("bars(0)", x.bars(0), 1);
        due("grips without bars again", x.grips(0), 0);
    }

    private static void weightRange() {
        sentence("WEIGHTS 0 .. 9 each: 0 .. 4 (1 each at first); promise 6: NONE; BAD");
        LuteFingers x = new LuteFingers();
        for (int what : new int[] {LEAST, -2, -1, 5, 6, MOST}) {
            due("weight(" + what + ", 1)", x.weight(what, 1), NONE);
            due("weight(" + what + ", 10)", x.weight(what, 10), NONE);
        }
        for (int what = 0; what < 5; what++) {
            for (int w : new int[] {LEAST, -1, 10, 11, MOST}) {
                due("weight(" + what + ", " + w + ")", x.weight(what, w), BAD);
            }
            due("weight(" + what + ", 0)", x.weight(what, 0), 1);
            due("weight(" + what + ", 9)", x.weight(what, 9), 0);
            due("weight(" + what + ", 2)", x.weight(what, 2), 9);
        }
        for (int what = 0; what < 5; what++) due("weight(" + what + ", 1)", x.weight(what, 1), 2);
    }

    private static void noteRange() {
        sentence("Promise 7: BAD: pitch not 0 .. 120, kind, price (KIND 0 .. 3, PRICE 0 .. 100)");
        LuteFingers x = lute(12, 40);
        for (int pitch : new int[] {LEAST, -2, -1, 121, 122, 256, MOST}) {
            due("note(" + pitch + ", 0, 1)", x.note(pitch, 0, 1), BAD);
        }
        for (int kind : new int[] {LEAST, -2, -1, 4, 5, MOST}) {
            due("note(50, " + kind + ", 1)", x.note(50, kind, 1), BAD);
        }
        for (int price : new int[] {LEAST, -2, -1, 101, 102, 256, MOST}) {
            due("note(50, 0, " + price + ")", x.note(50, 0, price), BAD);
        }
        due("count(3)", x.count(3), 0);
        due("note(0, 0, 0)", x.note(0, 0, 0), 1);
        due("note(120, 3, 100)", x.note(120, 3, 100), 2);
        x.tick();
        due("note(0, 1, 100)", x.note(0, 1, 100), 1);
        due("note(120, 2, 0)", x.note(120, 2, 0), 2);
        x.tick();
        int[][] want = {{0, 0, 0}, {120, 3, 100}, {0, 1, 100}, {120, 2, 0}};
        for (int i = 0; i < 4; i++) {
            for (int what = 0; what < 3; what++) {
                due("told(" + i / 2 + ", " + i % 2 + ", " + what + ")", x.told(i / 2, i % 2, what), want[i][what]);
            }
        }
    }

    private static void fourNotes() {
        sentence("NOTES, numbered from 0 on, 4 at most; promise 7: FULL: 4");
        LuteFingers x = lute(12, 40);
        for (int tick = 0; tick < 2; tick++) {
            for (int i = 0; i < 4; i++) due("note", x.note(50 + i, 0, 1), i + 1);
            due("the fifth", x.note(60, 0, 1), FULL);
            due("count(3)", x.count(3), 4);
            due("tick()", x.tick(), tick);
            due("told(.., 3, 0)", x.told(tick, 3, 0), 53);
            due("told(.., 4, 0)", x.told(tick, 4, 0), NONE);
            due("count(3)", x.count(3), 0);
        }
        due("count(2)", x.count(2), 8);
        LuteFingers none = new LuteFingers();
        for (int i = 0; i < 4; i++) due("note without courses", none.note(50 + i, 0, 1), i + 1);
        due("the fifth without courses", none.note(60, 0, 1), FULL);
    }

    private static void onePitch() {
        sentence("no two of one PITCH; promise 7: BAD: a PITCH that it has");
        LuteFingers x = lute(12, 40);
        x.note(50, 0, 1);
        for (int kind = 0; kind < 4; kind++) due("50 again, kind " + kind, x.note(50, kind, 1), BAD);
        due("51", x.note(51, 0, 1), 2);
        due("49", x.note(49, 0, 1), 3);
        due("the first again", x.note(50, 0, 1), BAD);
        due("the last again", x.note(49, 0, 1), BAD);
        due("0", x.note(0, 0, 1), 4);
        due("0 again, and FULL", x.note(0, 0, 1), BAD);
        x.tick();
        due("50 in another tick", x.note(50, 0, 1), 1);
        x.clear();
        due("50 behind clear()", x.note(50, 0, 1), 1);
    }

    private static void foreOfHeld() {
        sentence("HELD the NOTE of its PITCH in the TICK ahead; promise 7: STATE: there is no FORE");
        LuteFingers x = lute(12, 40);
        due("held, no tick", x.note(50, 1, 1), STATE);
        due("note", x.note(50, 0, 1), 1);
        due("a note told is in no tick", x.note(51, 1, 1), STATE);
        x.note(51, 0, 1);
        x.note(52, 0, 1);
        x.note(53, 0, 1);
        x.tick();
        due("a pitch below", x.note(49, 1, 1), STATE);
        due("a pitch above", x.note(54, 1, 1), STATE);
        due("the last of the tick ahead", x.note(53, 1, 1), 1);
        due("the first of it", x.note(50, 1, 1), 2);
        x.tick();
        due("fore", x.told(1, 0, 3), 3);
        due("fore", x.told(1, 1, 3), 0);
        due("51 is two ticks ahead", x.note(51, 1, 1), STATE);
        due("a held one's held one", x.note(50, 1, 1), 1);
        x.tick();
        due("fore", x.told(2, 0, 3), 1);
        x.tick();
        due("behind a tick without notes", x.note(50, 1, 1), STATE);
        x.clear();
        due("behind clear()", x.note(50, 1, 1), STATE);
    }

    private static void foreOfSlur() {
        sentence("SLUR NOTE 0 of that; promise 7: STATE: there is no FORE");
        LuteFingers x = lute(12, 40);
        due("slur, no tick", x.note(50, 2, 1), STATE);
        x.note(50, 0, 1);
        due("a note told is in no tick", x.note(51, 2, 1), STATE);
        x.note(60, 0, 1);
        x.tick();
        due("any pitch", x.note(0, 2, 1), 1);
        due("any pitch", x.note(120, 2, 1), 2);
        due("its fore's pitch", x.note(50, 2, 1), 3);
        due("note 1's pitch", x.note(60, 2, 1), 4);
        x.tick();
        for (int i = 0; i < 4; i++) due("fore of " + i, x.told(1, i, 3), 0);
        x.tick();
        due("behind a tick without notes", x.note(50, 2, 1), STATE);
        due("OPEN needs none", x.note(50, 3, 1), 1);
        due("PLAIN needs none", x.note(51, 0, 1), 2);
        x.clear();
        due("behind clear()", x.note(50, 2, 1), STATE);
    }

    private static void foreOfSeventeenth() {
        sentence("a NOTE for the next TICK, behind the 16th, has its FORE there");
        LuteFingers x = lute(12, 40);
        for (int t = 0; t < 16; t++) plain(x, 40 + t % 2);
        due("held of tick 14's pitch", x.note(40, 1, 1), STATE);
        due("held of tick 15's pitch", x.note(41, 1, 1), 1);
        due("slur", x.note(42, 2, 1), 2);
        due("plain", x.note(43, 0, 1), 3);
        due("open", x.note(44, 3, 1), 4);
        due("the fifth", x.note(45, 0, 1), FULL);
        due("tick()", x.tick(), FULL);
        due("count(3)", x.count(3), 4);
        due("count(2)", x.count(2), 16);
        due("told(16, 0, 0)", x.told(16, 0, 0), NONE);
        due("fix(16, 0, 0)", x.fix(16, 0, 0), NONE);
        due("grips(16)", x.grips(16), NONE);
        due("grip(16, 0, 0, 0)", x.grip(16, 0, 0, 0), NONE);
        due("why(16)", x.why(16), NONE);
    }

    private static void noteRefusals() {
        sentence("Promise 7: BAD; STATE; FULL: 4, of several the first one that the act tells");
        LuteFingers x = lute(12, 40);
        due("wrong price, no fore", x.note(50, 1, 101), BAD);
        due("wrong pitch, no fore", x.note(121, 2, 1), BAD);
        for (int i = 0; i < 4; i++) x.note(50 + i, 0, 1);
        due("wrong pitch, FULL", x.note(-1, 0, 1), BAD);
        due("wrong kind, FULL", x.note(60, 4, 1), BAD);
        due("wrong price, FULL", x.note(60, 0, -1), BAD);
        due("a pitch that it has, FULL", x.note(53, 0, 1), BAD);
        due("a pitch that it has, no fore, FULL", x.note(53, 1, 1), BAD);
        due("held, no fore, FULL", x.note(60, 1, 1), STATE);
        due("slur, no fore, FULL", x.note(60, 2, 1), STATE);
        due("FULL", x.note(60, 3, 1), FULL);
        x.tick();
        for (int i = 0; i < 4; i++) x.note(70 + i, 2, 1);
        due("held, a fore, FULL", x.note(50, 1, 1), FULL);
        due("slur, a fore, FULL", x.note(80, 2, 1), FULL);
        due("held, no fore, FULL", x.note(80, 1, 1), STATE);
        due("count(3)", x.count(3), 4);
    }

    private static void sixteenTicks() {
        sentence("TICKS, numbered from 0 on, 16 at most; promise 8: FULL");
        LuteFingers x = lute(12, 40, 45, 50, 55);
        for (int t = 0; t < 16; t++) {
            due("count(1)", x.count(1), t);
            due("tick of no notes yet", x.grips(t), NONE);
            for (int i = 0; i < 4; i++) x.note(40 + 5 * i, 0, t);
            due("tick()", x.tick(), t);
        }
        due("count(1)", x.count(1), 16);
        due("count(2)", x.count(2), 64);
        for (int i = 0; i < 4; i++) due("note", x.note(60 + i, 0, 1), i + 1);
        due("the seventeenth", x.tick(), FULL);
        due("count(1)", x.count(1), 16);
        due("count(2)", x.count(2), 64);
        due("the notes told stay", x.count(3), 4);
        due("told(15, 3, 0)", x.told(15, 3, 0), 55);
        due("told(15, 3, 2)", x.told(15, 3, 2), 15);
        due("told(0, 0, 0)", x.told(0, 0, 0), 40);
        due("fix(15, 3, 3)", x.fix(15, 3, 3), 0);
        due("told(15, 3, 4)", x.told(15, 3, 4), 3);
        due("grips(15)", x.grips(15) > 0 ? 1 : 0, 1);
        due("why(15)", x.why(15), 0);
        due("clear()", x.clear(), 16);
        due("count(3)", x.count(3), 0);
        due("tick 0 again", x.tick(), 0);
        due("it has no notes", x.told(0, 0, 0), NONE);
    }

    private static void tickRefusals() {
        sentence("Promise 8: STATE: there is no COURSE; FULL");
        LuteFingers x = new LuteFingers();
        for (int i = 0; i < 4; i++) x.note(50 + i, 0, i);
        due("tick()", x.tick(), STATE);
        due("count(1)", x.count(1), 0);
        due("the notes told stay", x.count(3), 4);
        due("clear()", x.clear(), 0);
        due("count(3)", x.count(3), 0);
        x.note(50, 3, 7);
        x.course(50, 0);
        due("the note told ahead of the course", x.tick(), 0);
        due("its price", x.told(0, 0, 2), 7);
        due("its grip", x.grips(0), 1);
    }

    private static void tickWithoutNotes() {
        sentence("NOTES (none: nothing is plucked)");
        LuteFingers x = lute(12, 40, 45);
        due("tick()", x.tick(), 0);
        due("grips(0)", x.grips(0), 1);
        for (int what = 0; what < 3; what++) due("grip(0, 0, -1, " + what + ")", x.grip(0, 0, -1, what), 0);
        due("grip(0, 0, 0, 0)", x.grip(0, 0, 0, 0), NONE);
        due("grip(0, 1, -1, 0)", x.grip(0, 1, -1, 0), NONE);
        due("why(0)", x.why(0), 0);
        due("told(0, 0, 0)", x.told(0, 0, 0), NONE);
        due("fix(0, 0, 0)", x.fix(0, 0, 0), NONE);
        due("way()", x.way(), 0);
        due("at(0)", x.at(0), 0);
        due("next()", x.next(), NONE);
        due("rank(1)", x.rank(1), 0);
        due("write()", x.write(), 4);
        due("arrange()", x.arrange(), 0);
        due("left(0)", x.left(0), 0);
        due("rest()", x.rest(), 0);
        due("choose()", x.choose(), 0);
        due("say(0)", x.say(0), 1);
        due("check()", x.check(), 0);
    }

    private static void clearing() {
        sentence("Promise 9: All TICKS, and NOTES told, go: how many TICKS");
        LuteFingers none = new LuteFingers();
        none.note(50, 0, 1);
        due("clear() without courses", none.clear(), 0);
        due("count(3)", none.count(3), 0);
        LuteFingers x = lute(12, 40, 45);
        due("clear() of nothing", x.clear(), 0);
        x.say(0);
        x.feed(97);
        x.slack(1, 2);
        x.bars(1);
        x.weight(2, 9);
        x.tuning(2, 1, 77);
        plain(x, 50);
        x.fix(0, 0, 1);
        x.note(51, 0, 1);
        due("clear()", x.clear(), 1);
        due("count(1)", x.count(1), 0);
        due("count(2)", x.count(2), 0);
        due("count(3)", x.count(3), 0);
        due("clear() again", x.clear(), 0);
        plain(x, 50);
        due("a new note is not fixed", x.told(0, 0, 4), NONE);
        due("the courses stay", x.count(0), 2);
        due("the row stays", x.say(0), 2);
        due("the tape stays", x.tape(0), 97);
        due("the slack stays", x.slack(1, 1), 2);
        due("bars stay", x.bars(0), 1);
        due("the weight stays", x.weight(2, 1), 9);
        due("the tuning stays", x.tuning(2, 1, 1), 77);
        due("the tune stays", x.tune(1, 45), 45);
    }

    private static void fixing() {
        sentence("Promise 10: FIXED to a COURSE (-1: not any more): what it was to (-1), and 1. NONE");
        LuteFingers x = lute(12, 40, 40, 40, 40, 40, 40);
        plain(x, 50, 51);
        plain(x, 52);
        x.note(53, 0, 1);
        for (int wild : new int[] {LEAST, -2, 2, 3, 16, 17, MOST}) {
            due("fix(" + wild + ", 0, 0)", x.fix(wild, 0, 0), NONE);
            due("fix(0, " + wild + ", 0)", x.fix(0, wild, 0), NONE);
        }
        due("fix(-1, 0, 0)", x.fix(-1, 0, 0), NONE);
        due("fix(0, -1, 0)", x.fix(0, -1, 0), NONE);
        due("fix(1, 1, 0)", x.fix(1, 1, 0), NONE);
        due("a note told is in no tick", x.fix(2, 0, 0), NONE);
        for (int course : new int[] {LEAST, -3, -2, 6, 7, MOST}) {
            due("fix(0, 0, " + course + ")", x.fix(0, 0, course), NONE);
        }
        due("told(0, 0, 4)", x.told(0, 0, 4), NONE);
        due("fix(0, 0, -1)", x.fix(0, 0, -1), 0);
        due("fix(0, 0, 0)", x.fix(0, 0, 0), 0);
        due("told(0, 0, 4)", x.told(0, 0, 4), 0);
        due("fix(0, 0, 5)", x.fix(0, 0, 5), 1);
        due("told(0, 0, 4)", x.told(0, 0, 4), 5);
        due("fix(0, 0, 6)", x.fix(0, 0, 6), NONE);
        due("told(0, 0, 4)", x.told(0, 0, 4), 5);
        due("fix(0, 0, -1)", x.fix(0, 0, -1), 6);
        due("told(0, 0, 4)", x.told(0, 0, 4), NONE);
        due("told(0, 1, 4)", x.told(0, 1, 4), NONE);
        due("told(1, 0, 4)", x.told(1, 0, 4), NONE);
        due("fix(1, 0, 3)", x.fix(1, 0, 3), 0);
        due("told(0, 0, 4)", x.told(0, 0, 4), NONE);
    }

    private static void telling() {
        sentence("Promise 11: what 0 PITCH .. 4 the COURSE to which it is FIXED (NONE). NONE");
        LuteFingers x = lute(12, 40, 45);
        due("told(0, 0, 0), no tick", x.told(0, 0, 0), NONE);
        x.note(50, 0, 9);
        x.note(45, 3, 0);
        x.tick();
        x.note(51, 2, 100);
        x.tick();
        for (int wild : new int[] {LEAST, -2, -1, 2, 3, 4, 16, MOST}) {
            due("told(" + wild + ", 0, 0)", x.told(wild, 0, 0), NONE);
            due("told(0, " + wild + ", 0)", x.told(0, wild, 0), NONE);
        }
        for (int what : new int[] {LEAST, -2, -1, 5, 6, MOST}) {
            due("told(0, 0, " + what + ")", x.told(0, 0, what), NONE);
        }
        due("told(1, 1, 0)", x.told(1, 1, 0), NONE);
        int[][] want = {{50, 0, 9, NONE, NONE}, {45, 3, 0, NONE, NONE}, {51, 2, 100, 0, NONE}};
        for (int n = 0; n < 3; n++) {
            for (int what = 0; what < 5; what++) {
                due("told(" + n / 2 + ", " + n % 2 + ", " + what + ")", x.told(n / 2, n % 2, what), want[n][what]);
            }
        }
    }

    // ---- part 2, promises 12 to 14

    private static void oneCourseEach() {
        sentence("A GRIP gives each a COURSE (no two one)");
        LuteFingers x = lute(12, 40, 40);
        plain(x, 41, 42);
        plain(x, 41, 42, 43);
        for (int i = 0; i < x.grips(0); i++) {
            due("other courses in grip " + i, x.grip(0, i, 0, 0) + x.grip(0, i, 1, 0), 1);
        }
        due("three on two courses", x.grips(1), 0);
        LuteFingers y = lute(12, 40, 41, 42, 43);
        plain(y, 40, 41, 42, 43);
        due("four on four", y.grip(0, 0, -1, 0), 0);
        due("courses", courses(y, 0, 0, 4), 123);
    }

    private static void openFinger() {
        sentence("a FINGER (0 if x is 0), and has a PLACE h, or 0 if no FINGER is used");
        LuteFingers x = lute(12, 40, 45);
        plain(x, 45);
        due("first on course 1", x.grip(0, 0, 0, 0), 1);
        due("its fret", x.grip(0, 0, 0, 1), 0);
        due("its finger", x.grip(0, 0, 0, 2), 0);
        due("its place", x.grip(0, 0, -1, 0), 0);
        due("its cost", x.grip(0, 0, -1, 1), 0);
        due("with fret 5 on course 0", x.grips(0), 1 + 8);
        for (int i = 1; i < 9; i++) {
            due("finger of grip " + i, x.grip(0, i, 0, 2) > 0 ? 1 : 0, 1);
            due("place of grip " + i, x.grip(0, i, -1, 0) > 0 ? 1 : 0, 1);
        }
        plain(x, 40, 45);
        due("both open: place 0 alone", x.grips(1), 1);
        plain(x, 40, 46);
        due("one open, one at fret 1", x.grips(2), 1);
        due("place", x.grip(2, 0, -1, 0), 1);
    }

    private static void reachOfFingers() {
        sentence("a NOTE with FINGER f has x from h + f - 1 to h + f - 1 and the SLACK of f more; PLACE h, 1 .. 12");
        for (int slack = 0; slack <= 2; slack++) {
            LuteFingers x = lute(12, 40);
            for (int f = 1; f <= 4; f++) x.slack(f, slack);
            for (int fret = 1; fret <= 12; fret++) plain(x, 40 + fret);
            for (int fret = 1; fret <= 12; fret++) {
                int i = 0;
                for (int h = 1; h <= 12; h++) {
                    for (int f = 1; f <= 4; f++) {
                        int over = fret - (h + f - 1);
                        if (over < 0 || over > slack) continue;
                        due("place, slack " + slack + ", fret " + fret, x.grip(fret - 1, i, -1, 0), h);
                        due("finger, slack " + slack + ", fret " + fret, x.grip(fret - 1, i, 0, 2), f);
                        i++;
                    }
                }
                due("grips, slack " + slack + ", fret " + fret, x.grips(fret - 1), i);
            }
        }
    }

    private static void slackOfOneFinger() {
        sentence("FINGERS 1 .. 4 have a SLACK each");
        for (int f = 1; f <= 4; f++) {
            LuteFingers x = withoutSlack(lute(12, 40));
            plain(x, 46);
            due("grips without slack", x.grips(0), 4);
            x.slack(f, 2);
            due("grips with slack of " + f, x.grips(0), 6);
            int its = 0;
            for (int i = 0; i < 6; i++) if (x.grip(0, i, 0, 2) == f) its++;
            due("grips with finger " + f, its, 3);
        }
    }

    private static void placeTwelve() {
        sentence("a PLACE h, 1 .. 12");
        LuteFingers x = withoutSlack(lute(12, 40, 45));
        x.bars(1);
        plain(x, 52, 57);
        due("fret 12 twice: a bar at place 12", x.grips(0), 1);
        due("place", x.grip(0, 0, -1, 0), 12);
        x.bars(0);
        due("no bar", x.grips(0), 0);
        plain(x, 41);
        due("fret 1", x.grips(1), 1);
        due("place", x.grip(1, 0, -1, 0), 1);
        for (int f = 1; f <= 4; f++) x.slack(f, 2);
        due("fret 1 with slack has no place below 1", x.grips(1), 1);
        plain(x, 42);
        due("fret 2 with slack: 1 and 2 at place 1, 1 at place 2", x.grips(2), 3);
    }

    private static void openNotes() {
        sentence("such that an OPEN one has x 0");
        LuteFingers x = lute(12, 40, 45);
        kind(x, 45, 3);
        due("open on course 1 alone", x.grips(0), 1);
        due("course", x.grip(0, 0, 0, 0), 1);
        kind(x, 46, 3);
        due("fret 1", x.grips(1), 0);
        kind(x, 39, 3);
        due("below", x.grips(2), 0);
        x.fix(0, 0, 0);
        due("fixed where it is not open", x.grips(0), 0);
        x.tune(0, 45);
        due("fixed where it is", x.grips(0), 1);
        x.fix(0, 0, -1);
        due("on both", x.grips(0), 2);
    }

    private static void fixedNotes() {
        sentence("a FIXED one its COURSE");
        LuteFingers x = lute(12, 40, 40, 40, 40, 40, 40);
        plain(x, 41);
        due("on six courses", x.grips(0), 6);
        for (int c = 0; c < 6; c++) {
            x.fix(0, 0, c);
            due("on one", x.grips(0), 1);
            due("its course", x.grip(0, 0, 0, 0), c);
        }
        x.tune(5, 42);
        due("its course does not give it", x.grips(0), 0);
        x.fix(0, 0, -1);
        due("on five", x.grips(0), 5);
        plain(x, 41, 42);
        x.fix(1, 0, 2);
        x.fix(1, 1, 2);
        due("two fixed to one", x.grips(1), 0);
        due("why", x.why(1), 3);
    }

    private static void barAtItsPlace() {
        sentence("FINGER 1 has h itself if it has several NOTES");
        LuteFingers x = withoutSlack(lute(12, 40, 45));
        x.bars(1);
        x.slack(1, 1);
        plain(x, 43, 48);
        // both at fret 3: fingers 1 and 2 from place 2, the bar from place 3, none with finger 1 twice from place 2
        due("grips", x.grips(0), 2);
        due("fingers from place 2", fingers(x, 0, 0, 2), 21);
        due("fingers from place 3", fingers(x, 0, 1, 2), 11);
        due("place", x.grip(0, 1, -1, 0), 3);
        x.slack(1, 2);
        due("grips with slack 2", x.grips(0), 3);
        due("fingers from place 1", fingers(x, 0, 0, 2), 31);
        plain(x, 43, 49);
        // frets 3 and 4: finger 1 could reach both from place 3, but it is no bar
        for (int i = 0; i < x.grips(1); i++) {
            due("no bar in grip " + i, x.grip(1, i, -1, 2), 0);
            due("two fingers in grip " + i, x.grip(1, i, 0, 2) < x.grip(1, i, 1, 2) ? 1 : 0, 1);
        }
        LuteFingers y = withoutSlack(lute(12, 40, 45, 50, 55));
        y.bars(1);
        plain(y, 42, 47, 52, 57);
        due("four under one bar", fingers(y, 0, y.grips(0) - 1, 4), 1111);
        due("place", y.grip(0, y.grips(0) - 1, -1, 0), 2);
    }

    private static void barOfFingerOne() {
        sentence("no FINGER has two NOTES, but 1, if BARS may be (then it is a BAR)");
        LuteFingers x = withoutSlack(lute(12, 40, 45));
        plain(x, 46, 51);
        plain(x, 46);
        x.fix(0, 0, 0);
        x.fix(0, 1, 1);
        due("fret 6 twice, no bars", x.grips(0), 0);
        x.bars(1);
        due("fret 6 twice, bars: finger 1 alone", x.grips(0), 1);
        due("fingers", fingers(x, 0, 0, 2), 11);
        due("a bar", x.grip(0, 0, -1, 2), 1);
        for (int i = 0; i < x.grips(1); i++) due("one note is no bar", x.grip(1, i, -1, 2), 0);
        x.bars(0);
        due("no bars again", x.grips(0), 0);
    }

    private static void fingersInOrder() {
        sentence("of FINGERS f less than g the FRET of f is not above that of g, and if they are one, the COURSE is");
        LuteFingers x = withoutSlack(lute(12, 40, 45));
        x.slack(1, 2);
        plain(x, 43, 47);
        // frets 3 and 2: from place 1 finger 1 would reach fret 3 above finger 2's fret 2
        due("grips", x.grips(0), 3);
        due("from place 1", fingers(x, 0, 0, 2), 31);
        due("from place 1", fingers(x, 0, 1, 2), 32);
        due("from place 2", fingers(x, 0, 2, 2), 21);
        LuteFingers y = withoutSlack(lute(12, 40, 45));
        y.slack(1, 1);
        plain(y, 43, 48);
        plain(y, 48, 43);
        y.fix(1, 0, 1);
        due("one fret", y.grips(0), 1);
        due("the higher course has the lower finger", fingers(y, 0, 0, 2), 21);
        due("one fret, notes the other way round", y.grips(1), 1);
        due("the higher course has the lower finger", fingers(y, 1, 0, 2), 12);
        LuteFingers z = withoutSlack(lute(12, 40, 45, 50));
        z.slack(1, 2);
        z.slack(2, 1);
        plain(z, 43, 48, 53);
        due("one fret, three fingers", z.grips(0), 1);
        due("in the order of courses from above", fingers(z, 0, 0, 3), 321);
    }

    private static void orderOfGrips() {
        sentence("GRIPS are in the order of h, then, NOTE by NOTE by their numbers, of COURSE, then of FINGER");
        LuteFingers x = lute(12, 40, 40);
        plain(x, 42);
        int[][] want = {{1, 0, 1}, {1, 0, 2}, {1, 1, 1}, {1, 1, 2}, {2, 0, 1}, {2, 1, 1}};
        due("grips", x.grips(0), want.length);
        for (int k = 0; k < want.length; k++) {
            due("place of " + k, x.grip(0, k, -1, 0), want[k][0]);
            due("course of " + k, x.grip(0, k, 0, 0), want[k][1]);
            due("finger of " + k, x.grip(0, k, 0, 2), want[k][2]);
        }
        LuteFingers y = lute(12, 40, 40, 40);
        withoutSlack(y);
        y.slack(1, 1);
        plain(y, 42, 40);
        // fret 2: from place 1 with finger 1 or 2, from place 2 with finger 1
        due("grips", y.grips(0), 18);
        int i = 0;
        for (int place = 1; place <= 2; place++) {
            for (int code = 0; code < 18; code++) {
                int course = code / 6, finger = 1 + code / 3 % 2, open = code % 3;
                if (open == course || place + finger > 3) continue;
                due("place of " + i, y.grip(0, i, -1, 0), place);
                due("courses of " + i, courses(y, 0, i, 2), course * 10 + open);
                due("finger of " + i, y.grip(0, i, 0, 2), finger);
                i++;
            }
        }
    }

    private static void thirtyTwoGrips() {
        sentence("More than 32 of one TICK: the TICK is SPENT (as if it had none)");
        LuteFingers x = lute(12, 40, 40, 40, 40, 46);
        plain(x, 45);
        due("four times eight", x.grips(0), 32);
        due("grip(0, 31, -1, 0)", x.grip(0, 31, -1, 0), 5);
        due("grip(0, 31, 0, 0)", x.grip(0, 31, 0, 0), 3);
        due("grip(0, 32, -1, 0)", x.grip(0, 32, -1, 0), NONE);
        due("say(31)", x.say(31), 1);
        due("check()", x.check(), 1);
        due("say(32)", x.say(32), 1);
        due("check()", x.check(), -10);
        due("way()", x.way(), 1);
        for (int i = 0; i < 8; i++) {
            due("at(0) of way " + i, x.at(0), i);
            x.next();
        }
        due("arrange()", x.arrange(), 0);
        due("choose()", x.choose(), 0);
        due("why(0)", x.why(0), 0);
        x.tune(4, 45);
        due("promise 12: STATE: SPENT", x.grips(0), STATE);
        due("promise 13: NONE (SPENT, too)", x.grip(0, 0, -1, 0), NONE);
        due("the 32nd", x.grip(0, 31, 0, 0), NONE);
        due("promise 14: a set with more than 32 has one", x.why(0), 0);
        due("way()", x.way(), -10);
        due("arrange()", x.arrange(), STATE);
        due("the tunings are as they were", x.choose(), 0);
        due("say(0)", x.say(0), 1);
        due("check()", x.check(), -10);
        for (int k = 0; k < 4; k++) x.tuning(k, 4, 45);
        due("SPENT with each tuning", x.choose(), NONE);
        x.tuning(3, 4, 58);
        due("not with the last", x.choose(), 3);
        x.tune(4, 58);
        due("32 again", x.grips(0), 32);
        due("way()", x.way(), 1);
        sentence("the TICK is SPENT: that one alone");
        LuteFingers y = lute(12, 40, 40, 40, 40, 45);
        for (int t = 0; t < 16; t++) plain(y, t % 3 == 0 ? 45 : 57);
        for (int t = 15; t >= 0; t--) due("grips(" + t + ")", y.grips(t), t % 3 == 0 ? STATE : 8);
        for (int t = 0; t < 16; t++) {
            due("place in tick " + t, y.grip(t, 0, -1, 0), t % 3 == 0 ? NONE : 8);
            due("last finger in tick " + t, y.grip(t, 7, 0, 2), t % 3 == 0 ? NONE : 1);
        }
        due("way()", y.way(), -10);
    }

    private static void costOfGrip() {
        sentence("The COST of a GRIP: STRETCH, FINGER, BAR (WEIGHTS 0 .. 9)");
        LuteFingers x = withoutSlack(lute(12, 40, 45, 50));
        x.bars(1);
        plain(x, 42, 47, 54);
        x.fix(0, 0, 0);
        x.fix(0, 1, 1);
        x.fix(0, 2, 2);
        // frets 2, 2 and 4: a bar from place 2 and finger 3
        due("grips", x.grips(0), 1);
        for (int w : new int[] {0, 1, 9}) {
            x.weight(0, w);
            due("stretch " + w, x.grip(0, 0, -1, 1), 2 * w + 2 + 1);
            x.weight(0, 1);
            x.weight(1, w);
            due("finger " + w, x.grip(0, 0, -1, 1), 2 + 2 * w + 1);
            x.weight(1, 1);
            x.weight(2, w);
            due("bar " + w, x.grip(0, 0, -1, 1), 2 + 2 + w);
            x.weight(2, 1);
            x.weight(3, w);
            x.weight(4, w);
            due("shift and crossing " + w, x.grip(0, 0, -1, 1), 5);
        }
        sentence("the difference of the greatest and least FRET with a FINGER (0 without)");
        LuteFingers y = lute(12, 40, 45);
        y.weight(1, 0);
        y.weight(0, 9);
        plain(y, 40, 45);
        due("without a finger", y.grip(0, 0, -1, 1), 0);
        plain(y, 40, 57);
        due("one finger at fret 12", y.grip(1, 0, -1, 1), 0);
        plain(y, 41, 50);
        for (int f = 1; f <= 4; f++) y.slack(f, 2);
        due("frets 1 and 5", y.grip(2, 0, -1, 1), 36);
        for (int i = 0; i < 5; i++) y.weight(i, 9);
        due("all weights 9", y.grip(2, 0, -1, 1), 36 + 18);
    }

    private static void gripNumbers() {
        sentence("Promise 12: NONE; promise 13: NONE; promise 14: NONE");
        LuteFingers none = new LuteFingers();
        due("grips(0)", none.grips(0), NONE);
        due("grip(0, 0, -1, 0)", none.grip(0, 0, -1, 0), NONE);
        due("why(0)", none.why(0), NONE);
        LuteFingers x = lute(12, 40, 45);
        plain(x, 41, 46);
        x.bars(1);
        plain(x, 99);
        x.note(50, 0, 1);
        due("grips(0)", x.grips(0), 1);
        due("grips(1)", x.grips(1), 0);
        for (int wild : new int[] {LEAST, -2, 2, 3, 4, 16, 32, MOST}) {
            due("grips(" + wild + ")", x.grips(wild), NONE);
            due("why(" + wild + ")", x.why(wild), NONE);
            due("grip(" + wild + ", 0, 0, 0)", x.grip(wild, 0, 0, 0), NONE);
            due("grip(" + wild + ", 0, -1, 0)", x.grip(wild, 0, -1, 0), NONE);
            due("grip(0, " + wild + ", 0, 0)", x.grip(0, wild, 0, 0), NONE);
            due("grip(0, " + wild + ", -1, 0)", x.grip(0, wild, -1, 0), NONE);
            due("grip(0, 0, " + wild + ", 0)", x.grip(0, 0, wild, 0), NONE);
        }
        for (int what : new int[] {LEAST, -2, -1, 3, 4, MOST}) {
            due("grip(0, 0, 0, " + what + ")", x.grip(0, 0, 0, what), NONE);
            due("grip(0, 0, -1, " + what + ")", x.grip(0, 0, -1, what), NONE);
        }
        due("grip(-1, 0, 0, 0)", x.grip(-1, 0, 0, 0), NONE);
        due("grip(0, -1, 0, 0)", x.grip(0, -1, 0, 0), NONE);
        due("grip(0, 1, 0, 0)", x.grip(0, 1, 0, 0), NONE);
        due("a tick without grips", x.grip(1, 0, -1, 0), NONE);
        due("grips(-1)", x.grips(-1), NONE);
        due("why(-1)", x.why(-1), NONE);
        int[][] want = {{0, 1, 1}, {1, 1, 1}, {1, 2, 1}};
        for (int what = 0; what < 3; what++) {
            due("grip(0, 0, 0, " + what + ")", x.grip(0, 0, 0, what), want[0][what]);
            due("grip(0, 0, 1, " + what + ")", x.grip(0, 0, 1, what), want[1][what]);
            due("grip(0, 0, -1, " + what + ")", x.grip(0, 0, -1, what), want[2][what]);
        }
    }

    private static void leastSets() {
        sentence("Promise 14: The least set of NOTES that have no GRIP (by how many, then by the mask); 0");
        int[] open = {40, 41, 42, 43};
        for (int i = 0; i < 4; i++) {
            int[] pitches = open.clone();
            pitches[i] = 20;
            due("one alone", whyOf(lute(12, 40, 41, 42, 43), pitches), 1 << i);
            for (int j = 0; j < i; j++) {
                pitches[j] = 21;
                due("the first of two alone", whyOf(lute(12, 40, 41, 42, 43), pitches), 1 << j);
                pitches[j] = open[j];
                LuteFingers x = lute(12, 40, 40, 40, 40);
                plain(x, 41, 42, 43, 44);
                x.fix(0, i, 0);
                x.fix(0, j, 0);
                due("a pair on one course", x.why(0), 1 << i | 1 << j);
            }
            int[] three = {41, 42, 43, 44};
            three[i] = 80;
            due("three on two courses", whyOf(lute(12, 40, 40, 80), three), 15 ^ 1 << i);
        }
        due("four on three courses", whyOf(lute(12, 40, 40, 40), 41, 42, 43, 44), 15);
        due("all together have one", whyOf(lute(12, 40, 40, 40, 40), 41, 42, 43, 44), 0);
        LuteFingers y = lute(12, 40, 40, 40, 40);
        plain(y, 41, 42, 43, 20);
        y.fix(0, 0, 0);
        y.fix(0, 1, 0);
        due("one note of mask 8 rather than two of mask 3", y.why(0), 8);
        LuteFingers z = lute(12, 40, 40, 40, 40);
        plain(z, 41, 42, 43, 44);
        z.fix(0, 0, 1);
        z.fix(0, 3, 1);
        due("a pair of mask 9", z.why(0), 9);
        z.fix(0, 1, 2);
        z.fix(0, 2, 2);
        due("a pair of mask 6 rather than of mask 9", z.why(0), 6);
    }

    private static int whyOf(LuteFingers x, int... pitches) {
        return x.why(plain(x, pitches));
    }
}

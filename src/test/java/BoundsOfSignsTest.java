/** Part 4 of "Terms" and promises 26 to 31: each sentence that names a bound, on both sides of it. */
public final class BoundsOfSignsTest {
    private static final int NONE = -1, BAD = -2, STATE = -3, FULL = -4;
    private static final int LEAST = Integer.MIN_VALUE, MOST = Integer.MAX_VALUE;
    private static String sentence = "";
    private static int sentences = 0;
    private static int wrong = 0;

    private static void sentence(String words) {
        sentence = words;
        sentences++;
    }

    private static void due(String call, int got, int want) {
        if (got == want) return;
        wrong++;
        if (wrong > 30) return;
        System.out.println("\"" + sentence + "\": " + call + " answered " + got + ", due is " + want);
    }

    private static void due(String call, String got, String want) {
        if (got.equals(want)) return;
        wrong++;
        System.out.println("\"" + sentence + "\": " + call + " is " + got + ", due is " + want);
    }

    public static void main(String[] args) {
        feedRange();
        fullTape();
        wiping();
        tapeNumbers();
        signsWritten();
        longestSigns();
        writeWithoutWay();
        firstBytes();
        secondLetters();
        digits();
        digitsOfSeveral();
        lineEnds();
        fifthLetter();
        endOfTape();
        seventeenthLine();
        courseCounts();
        whatIsRead();
        readInPlace();
        faultLeavesPiece();
        readWithoutCourses();
        emptyTape();
        counts();
        System.out.println(sentences + " sentences");
        System.out.println(wrong == 0 ? "all answers are as due" : wrong + " answers are not as due");
        if (wrong != 0) System.exit(1);
    }

    private static LuteFingers lute(int frets, int... tunes) {
        LuteFingers x = new LuteFingers();
        for (int tune : tunes) x.course(tune, frets);
        return x;
    }

    private static int plain(LuteFingers x, int... pitches) {
        for (int pitch : pitches) x.note(pitch, 0, 1);
        return x.tick();
    }

    private static int feed(LuteFingers x, String text) {
        int bytes = 0;
        for (char c : text.toCharArray()) bytes = x.feed(c);
        return bytes;
    }

    private static int readText(LuteFingers x, String text) {
        x.wipe();
        feed(x, text);
        return x.read();
    }

    private static String taped(LuteFingers x) {
        StringBuilder text = new StringBuilder();
        for (int i = 0; x.tape(i) != NONE; i++) text.append((char) x.tape(i));
        return text.toString();
    }

    // ---- promises 26 to 29

    private static void feedRange() {
        sentence("Promise 26: how many. BAD: not 0 .. 255");
        LuteFingers x = new LuteFingers();
        for (int b : new int[] {LEAST, -256, -2, -1, 256, 257, 512, MOST}) due("feed(" + b + ")", x.feed(b), BAD);
        due("tape(0)", x.tape(0), NONE);
        due("feed(0)", x.feed(0), 1);
        due("feed(255)", x.feed(255), 2);
        due("feed(256)", x.feed(256), BAD);
        due("feed(128)", x.feed(128), 3);
        due("tape(0)", x.tape(0), 0);
        due("tape(1)", x.tape(1), 255);
        due("tape(2)", x.tape(2), 128);
        LuteFingers y = new LuteFingers();
        for (int b = 0; b < 256; b++) due("feed(" + b + ")", y.feed(b), b + 1);
        for (int b = 0; b < 255; b++) due("tape(" + b + ")", y.tape(b), b);
    }

    /** The signs of 16 ticks without notes and 472 bytes more: 496 calls. */
    private static LuteFingers withFullTape(int missing) {
        LuteFingers x = lute(12, 40, 45, 50, 55, 60, 65);
        for (int t = 0; t < 16; t++) x.tick();
        x.way();
        due("write()", x.write(), 128);
        for (int i = 129; i <= 600 - missing; i++) due("feed(7)", x.feed(7), i);
        return x;
    }

    private static void fullTape() {
        sentence("Promise 26: FULL: 600");
        LuteFingers x = withFullTape(1);
        due("tape(599)", x.tape(599), NONE);
        due("the 600th", x.feed(9), 600);
        due("the 601st", x.feed(9), FULL);
        due("BAD and FULL", x.feed(256), BAD);
        due("BAD and FULL", x.feed(-1), BAD);
        due("tape(599)", x.tape(599), 9);
        due("tape(600)", x.tape(600), NONE);
        due("the 601st again", x.feed(0), FULL);
        due("wipe()", x.wipe(), 600);
        due("feed(0)", x.feed(0), 1);
        LuteFingers y = withFullTape(0);
        due("write() on a full tape", y.write(), 128);
        due("tape(128)", y.tape(128), NONE);
        due("feed()", y.feed(9), 129);
        LuteFingers z = withFullTape(0);
        due("read() of a full tape", z.read(), -10 - 128);
        due("the tape is empty", z.wipe(), 0);
        due("count(1)", z.count(1), 16);
    }

    private static void wiping() {
        sentence("Promise 27: THE TAPE is empty: how many it had");
        LuteFingers x = new LuteFingers();
        due("wipe() of none", x.wipe(), 0);
        x.feed(5);
        due("wipe() of one", x.wipe(), 1);
        due("tape(0)", x.tape(0), NONE);
        due("wipe() again", x.wipe(), 0);
        feed(x, "abc");
        due("wipe() of three", x.wipe(), 3);
        due("feed(1)", x.feed(1), 1);
        due("tape(0)", x.tape(0), 1);
        due("tape(1)", x.tape(1), NONE);
    }

    private static void tapeNumbers() {
        sentence("Promise 28: Byte i of THE TAPE. NONE");
        LuteFingers x = new LuteFingers();
        due("tape(0) of none", x.tape(0), NONE);
        feed(x, "xyz");
        for (int i : new int[] {LEAST, -600, -2, -1, 3, 4, 599, 600, 601, MOST}) due("tape(" + i + ")", x.tape(i), NONE);
        due("tape(0)", x.tape(0), 'x');
        due("tape(2)", x.tape(2), 'z');
    }

    private static void signsWritten() {
        sentence("SIGNS: a letter, a for FRET 0, b for 1, or - ; a blank; the FINGER's digit; then byte 10");
        LuteFingers x = lute(12, 40);
        for (int fret = 0; fret <= 12; fret++) plain(x, 40 + fret);
        x.tick();
        x.weight(3, 9);
        x.way();
        due("write()", x.write(), 13 * 4 + 3);
        String text = taped(x);
        for (int fret = 0; fret <= 12; fret++) {
            due("letter of fret " + fret, text.charAt(4 * fret), 'a' + fret);
            due("digit of fret " + fret, text.charAt(4 * fret + 2), '0' + x.grip(fret, x.at(fret), 0, 2));
        }
        due("open", text.substring(0, 4), "a 0\n");
        due("no notes", text.substring(52), "- \n");
        LuteFingers y = lute(12, 40, 45, 50, 55);
        plain(y, 59, 42, 45, 54);
        // note 0 on course 3, note 1 on course 0, note 2 open on course 1, note 3 on course 2
        y.way();
        y.write();
        due("courses, not notes, give the order", taped(y), "caee 1043\n");
        y.clear();
        plain(y, 41, 46, 51, 56);
        y.bars(1);
        y.way();
        y.write();
        due("a bar's digits", taped(y), "bbbb 1111\n");
    }

    private static void longestSigns() {
        sentence("SIGNS: a line for each TICK, 16 at most, of 6 COURSES and 4 NOTES");
        LuteFingers x = lute(12, 40, 41, 42, 43, 44, 45);
        for (int t = 0; t < 16; t++) {
            for (int i = 0; i < 4; i++) {
                x.note(40 + i, 3, 1);
            }
            x.tick();
        }
        x.way();
        due("write()", x.write(), 192);
        due("tape(191)", x.tape(191), 10);
        due("tape(192)", x.tape(192), NONE);
        due("write() again", x.write(), 192);
        due("read()", x.read(), 16);
        due("count(2)", x.count(2), 64);
        due("told(15, 3, 0)", x.told(15, 3, 0), 43);
        due("told(15, 3, 4)", x.told(15, 3, 4), 3);
        x.way();
        due("write() of what was read", x.write(), 192);
        due("feed()", x.feed('-'), 193);
        due("read()", x.read(), -10 - 192);
    }

    private static void writeWithoutWay() {
        sentence("Promise 29: STATE: none is at hand");
        LuteFingers x = lute(12, 40);
        due("write(), no tick", x.write(), STATE);
        plain(x, 41);
        feed(x, "zz");
        due("write(), no way() yet", x.write(), STATE);
        due("the tape stays", taped(x), "zz");
        x.way();
        due("write()", x.write(), 4);
        due("in place of what was", taped(x), "b 1\n");
        x.slack(1, 1);
        due("write() behind slack()", x.write(), STATE);
        due("the tape stays", taped(x), "b 1\n");
    }

    // ---- faults, promise 30

    /** Behind a prefix that is good so far each byte but those that may be there is a fault at its place. */
    private static void mayFollow(int[][] courses, String prefix, String may) {
        for (int b = 0; b < 256; b++) {
            LuteFingers x = new LuteFingers();
            for (int[] course : courses) x.course(course[0], course[1]);
            feed(x, prefix);
            x.feed(b);
            int place = prefix.length();
            int want = -10 - place;
            if (may.indexOf(b) >= 0) want = b == 10 ? lines(prefix) + 1 : -10 - place - 1;
            due("read() of " + prefix.replace('\n', '/') + " and byte " + b, x.read(), want);
        }
    }

    private static int lines(String text) {
        int lines = 0;
        for (char c : text.toCharArray()) if (c == '\n') lines++;
        return lines;
    }

    private static void firstBytes() {
        sentence("FAULTS: the first byte that can't be there (a letter beyond the FRETS, too)");
        String letters = "abcdefghijklm";
        for (int frets = 0; frets <= 12; frets++) {
            mayFollow(new int[][] {{40, frets}}, "", "-" + letters.substring(0, frets + 1));
        }
        mayFollow(new int[][] {{40, 0}, {60, 12}}, "a", "-" + letters);
        mayFollow(new int[][] {{40, 12}, {60, 0}}, "-", "-a");
        mayFollow(new int[][] {{40, 12}, {60, 0}}, "-- \n", "-" + letters);
    }

    private static void secondLetters() {
        sentence("two letters of one PITCH: at the second");
        int[][] courses = {{40, 5}, {43, 5}, {41, 5}};
        mayFollow(courses, "a", "-abcdef");
        mayFollow(courses, "d", "-bcdef");
        mayFollow(courses, "f", "-abdef");
        mayFollow(courses, "-", "-abcdef");
        mayFollow(courses, "--", "-abcdef");
        mayFollow(courses, "b-", "-bcdef");
        mayFollow(courses, "-a", "-abdef");
        mayFollow(courses, "ea", "-abef");
        mayFollow(courses, "bb", "-bcef");
        // the pitch of an earlier line may come again
        mayFollow(courses, "d-- 1\n-", "-abcdef");
    }

    private static void digits() {
        sentence("a digit not 0 for a, or 0 for another letter, or above 4");
        int[][] one = {{40, 12}};
        mayFollow(one, "a ", "0");
        for (char c = 'b'; c <= 'm'; c++) mayFollow(one, c + " ", "1234");
        mayFollow(one, "- ", "\n");
        mayFollow(one, "a 0", "\n");
        mayFollow(one, "m 4", "\n");
        mayFollow(one, "b 1", "\n");
    }

    private static void digitsOfSeveral() {
        sentence("for each COURSE with a letter, the FINGER's digit");
        int[][] three = {{40, 5}, {50, 5}, {60, 5}};
        mayFollow(three, "a-c", " ");
        mayFollow(three, "a-c ", "0");
        mayFollow(three, "a-c 0", "1234");
        mayFollow(three, "c-a ", "1234");
        mayFollow(three, "c-a 4", "0");
        mayFollow(three, "-a- ", "0");
        mayFollow(three, "-a- 0", "\n");
        mayFollow(three, "bbb 11", "1234");
        mayFollow(three, "bbb 111", "\n");
        mayFollow(three, "--- ", "\n");
        sentence("the digits are read, no hand must have them");
        due("one finger twice, the wrong way round", readText(lute(5, 40, 50, 60), "bdf 441\n"), 1);
    }

    private static void lineEnds() {
        sentence("as many as COURSES in each; behind these a blank; then byte 10");
        mayFollow(new int[][] {{40, 5}, {50, 5}}, "ab", " ");
        mayFollow(new int[][] {{40, 5}, {50, 5}}, "--", " ");
        mayFollow(new int[][] {{40, 5}, {50, 5}}, "ab 01", "\n");
        mayFollow(new int[][] {{40, 5}, {50, 5}}, "ab 01\n", "-abcdef");
        mayFollow(new int[][] {{40, 5}, {50, 5}}, "ab 01\n-- \n--", " ");
    }

    private static void fifthLetter() {
        sentence("a fifth letter");
        int[][] six = {{40, 5}, {50, 5}, {60, 5}, {70, 5}, {80, 5}, {90, 5}};
        mayFollow(six, "aaa", "-abcdef");
        mayFollow(six, "aaaa", "-");
        mayFollow(six, "aaaa-", "-");
        mayFollow(six, "-aaaa", "-");
        mayFollow(six, "a-aaa", "-");
        mayFollow(six, "-aaa-", "-abcdef");
        mayFollow(six, "aaaa--", " ");
        due("a fifth letter of a pitch that is there", readText(lute(12, 40, 45, 50, 55, 55), "aaaaa 00000\n"), -14);
        due("four letters", readText(lute(12, 40, 45, 50, 55, 55), "aaaa- 0000\n"), 1);
        due("four letters, twice", readText(lute(12, 40, 45, 50, 55, 55), "aaaa- 0000\n-aa-a 000\n"), 2);
    }

    private static void endOfTape() {
        sentence("the end where more must come: its length");
        String text = "a-b 01\n--- \nm-- 4\n";
        for (int length = 0; length <= text.length(); length++) {
            LuteFingers x = lute(12, 40, 45, 50);
            String some = text.substring(0, length);
            boolean whole = some.isEmpty() || some.endsWith("\n");
            due("read() of " + length + " bytes", readText(x, some), whole ? lines(some) : -10 - length);
            due("the tape is empty", x.wipe(), 0);
        }
        LuteFingers y = lute(12, 40, 45, 50);
        for (int length = text.length(); length > 11; length--) {
            // what was behind the end of an earlier tape is not there
            String some = text.substring(0, length);
            due("read() of " + length + " bytes", readText(y, some), some.endsWith("\n") ? lines(some) : -10 - length);
        }
    }

    private static void seventeenthLine() {
        sentence("the 17th line");
        StringBuilder text = new StringBuilder();
        for (int i = 1; i <= 16; i++) {
            text.append("- \n");
            due("read() of " + i + " lines", readText(lute(12, 40), text.toString()), i);
        }
        mayFollow(new int[][] {{40, 12}}, text.toString(), "");
        due("a good 17th", readText(lute(12, 40), text + "- \n"), -10 - 48);
        due("a fault ahead of it", readText(lute(12, 40), text.substring(0, 45) + "x \n- \n"), -10 - 45);
        due("the end of the 16th", readText(lute(12, 40), text.substring(0, 47)), -10 - 47);
    }

    private static void courseCounts() {
        sentence("READ: THE TAPE has such lines, as many as COURSES in each");
        for (int courses = 1; courses <= 6; courses++) {
            for (int letters = 0; letters <= 7; letters++) {
                LuteFingers x = new LuteFingers();
                for (int c = 0; c < courses; c++) x.course(40, 12);
                StringBuilder line = new StringBuilder();
                for (int i = 0; i < letters; i++) line.append('-');
                int want = letters == courses ? 1 : -10 - Math.min(letters, courses);
                due(letters + " for " + courses, readText(x, line + " \n"), want);
            }
        }
    }

    private static void whatIsRead() {
        sentence("NOTES are the letters, from COURSE 0 on, PLAIN, PRICE 1, FIXED to their COURSES");
        LuteFingers x = new LuteFingers();
        x.course(99, 12);
        x.course(0, 12);
        x.course(50, 0);
        due("read()", readText(x, "ma- 40\n-ma 40\n--- \n"), 3);
        int[][] want = {{111, 0, 1, NONE, 0}, {0, 0, 1, NONE, 1}, {12, 0, 1, NONE, 1}, {50, 0, 1, NONE, 2}};
        for (int n = 0; n < 4; n++) {
            for (int what = 0; what < 5; what++) {
                due("told(" + n / 2 + ", " + n % 2 + ", " + what + ")", x.told(n / 2, n % 2, what), want[n][what]);
            }
        }
        due("told(0, 2, 0)", x.told(0, 2, 0), NONE);
        due("told(2, 0, 0)", x.told(2, 0, 0), NONE);
        due("count(1)", x.count(1), 3);
        due("count(2)", x.count(2), 4);
        due("fix(0, 0, -1)", x.fix(0, 0, -1), 1);
        due("fix(1, 1, -1)", x.fix(1, 1, -1), 3);
        x.tune(2, 40);
        due("the tune as it is now", readText(x, "--a 0\n"), 1);
        due("told(0, 0, 0)", x.told(0, 0, 0), 40);
    }

    private static void readInPlace() {
        sentence("Promise 30: in place of the PIECE (NOTES told for a next TICK go, too): how many TICKS");
        LuteFingers x = lute(12, 40, 45);
        for (int t = 0; t < 16; t++) plain(x, 41, 47);
        for (int i = 0; i < 4; i++) x.note(60 + i, 0, 1);
        x.grips(0);
        x.grips(15);
        due("read()", readText(x, "a- 0\n"), 1);
        due("count(1)", x.count(1), 1);
        due("count(2)", x.count(2), 1);
        due("count(3)", x.count(3), 0);
        due("grips(0)", x.grips(0), 1);
        due("grip(0, 0, 0, 1)", x.grip(0, 0, 0, 1), 0);
        due("grips(1)", x.grips(1), NONE);
        due("held of what was read", x.note(40, 1, 1), 1);
        due("slur of what was read", x.note(47, 2, 1), 2);
        due("tick()", x.tick(), 1);
        due("grips(1)", x.grips(1) > 0 ? 1 : 0, 1);
        due("way(): the slur has note 0's course, which the held one has", x.way(), -11);
        due("course() with what was read", x.course(50, 5), STATE);
        LuteFingers y = lute(12, 40, 45);
        y.note(40, 3, 100);
        y.tick();
        y.note(40, 1, 50);
        y.tick();
        due("read()", readText(y, "-b 1\n-c 1\n"), 2);
        int[] want = {0, 1, NONE, 1};
        for (int what = 1; what < 5; what++) {
            due("told(0, 0, " + what + ")", y.told(0, 0, what), want[what - 1]);
            due("told(1, 0, " + what + ")", y.told(1, 0, what), want[what - 1]);
        }
        due("grips(0)", y.grips(0), 1);
        due("way()", y.way(), 2);
    }

    private static void faultLeavesPiece() {
        sentence("Promise 30: -10 less the place of its FAULT (the PIECE stays); THE TAPE is empty then");
        for (String text : new String[] {"x", "-", "a- 0\nb- 1\n- ", "a- 0\n\n", "aa 01\n", "- - \n"}) {
            LuteFingers x = lute(12, 40, 45);
            x.note(41, 0, 7);
            x.tick();
            x.note(41, 1, 3);
            x.note(45, 3, 5);
            x.tick();
            x.fix(1, 1, 1);
            x.note(41, 1, 9);
            x.say(0);
            due("read() has a fault", readText(x, text) <= -10 ? 1 : 0, 1);
            due("wipe()", x.wipe(), 0);
            due("count(1)", x.count(1), 2);
            due("count(2)", x.count(2), 3);
            due("count(3)", x.count(3), 1);
            due("told(0, 0, 2)", x.told(0, 0, 2), 7);
            due("told(1, 0, 3)", x.told(1, 0, 3), 0);
            due("told(1, 1, 4)", x.told(1, 1, 4), 1);
            due("grips(1)", x.grips(1), 1);
            due("way()", x.way(), 2);
            due("say(0)", x.say(0), 2);
            due("check()", x.check(), 2);
            due("the note told is a tick more", x.tick(), 2);
            due("told(2, 0, 2)", x.told(2, 0, 2), 9);
            due("read() of the empty tape", x.read(), 0);
        }
    }

    private static void readWithoutCourses() {
        sentence("Promise 30: THE TAPE, which is empty then (not with STATE). STATE: there is no COURSE");
        LuteFingers x = new LuteFingers();
        due("read() of none", x.read(), STATE);
        feed(x, "a 0\n");
        x.note(50, 0, 1);
        due("read()", x.read(), STATE);
        due("the tape stays", taped(x), "a 0\n");
        due("the note told stays", x.count(3), 1);
        x.course(40, 0);
        due("read() with a course", x.read(), 1);
        due("the tape is empty", x.tape(0), NONE);
        due("the note told went", x.count(3), 0);
    }

    private static void emptyTape() {
        sentence("READ: no line at all is no FAULT");
        LuteFingers x = lute(12, 40);
        due("read()", x.read(), 0);
        plain(x, 41);
        x.note(42, 0, 1);
        due("read()", x.read(), 0);
        due("count(1)", x.count(1), 0);
        due("count(2)", x.count(2), 0);
        due("count(3)", x.count(3), 0);
        due("way()", x.way(), STATE);
        due("course() can come again", x.course(45, 5), 1);
    }

    private static void counts() {
        sentence("Promise 31: 0 .. 5 which (from 0 on; NONE). NONE");
        LuteFingers x = lute(12, 40, 45);
        for (int what : new int[] {LEAST, -2, -1, 6, 7, MOST}) due("count(" + what + ")", x.count(what), NONE);
        int[] none = {2, 0, 0, 0, 0, NONE};
        for (int what = 0; what < 6; what++) due("count(" + what + ")", x.count(what), none[what]);
        plain(x, 43, 40);
        x.tick();
        plain(x, 45);
        x.note(50, 0, 1);
        x.note(51, 0, 1);
        int[] told = {2, 3, 3, 2, 0, NONE};
        for (int what = 0; what < 6; what++) due("count(" + what + ")", x.count(what), told[what]);
        due("way() has a break", x.way(), -10);
        for (int what = 0; what < 6; what++) due("count(" + what + ")", x.count(what), told[what]);
        x.tune(1, 43);
        x.way();
        int[] first = {2, 3, 3, 2, 1, 0};
        for (int what = 0; what < 6; what++) due("count(" + what + ")", x.count(what), first[what]);
        for (int i = 1; i < 8; i++) {
            x.next();
            due("count(4)", x.count(4), 1);
            due("count(5)", x.count(5), i);
        }
        x.next();
        due("count(5) behind the eighth", x.count(5), 7);
        for (int what : new int[] {LEAST, -1, 6, MOST}) due("count(" + what + ")", x.count(what), NONE);
    }
}

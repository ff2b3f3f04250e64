import java.io.IOException;
import java.lang.management.ManagementFactory;
import java.lang.reflect.Field;
import java.lang.reflect.Method;
import java.lang.reflect.Modifier;
import java.nio.file.Files;
import java.nio.file.Path;
import java.util.ArrayList;
import java.util.Arrays;
import java.util.List;
import java.util.Map;
import java.util.TreeMap;
import java.util.TreeSet;
import java.util.regex.Matcher;
import java.util.regex.Pattern;

/** The face of the class, and what LANGUAGE.md forbids and a program can see. */
public final class LanguageTest {
    private static final String SOURCE = "src/main/java/LuteFingers.java";
    private static final String[] FACE = {"course 2", "tune 2", "slack 2", "bars 1", "weight 2", "note 3", "tick 0",
        "clear 0", "fix 3", "told 3", "grips 1", "grip 4", "why 1", "way 0", "next 0", "at 1", "rank 1", "say 1",
        "check 0", "arrange 0", "left 1", "rest 0", "tuning 3", "choose 0", "feed 1", "wipe 0", "tape 1", "write 0",
        "read 0", "count 1"};
    private static int wrong = 0;

    private static void tell(String what) {
        wrong++;
        System.out.println(what);
    }

    public static void main(String[] args) throws IOException {
        face();
        nested();
        source(Files.readString(Path.of(SOURCE)));
        wildArguments();
        room();
        System.out.println(wrong == 0 ? "the class is as it must be" : wrong + " things are not as they must be");
        if (wrong != 0) System.exit(1);
    }

    private static void face() {
        Class<?> it = LuteFingers.class;
        if (!Modifier.isPublic(it.getModifiers()) || !Modifier.isFinal(it.getModifiers())) tell("public and final");
        TreeSet<String> open = new TreeSet<>();
        for (Method m : it.getDeclaredMethods()) {
            if (Modifier.isPrivate(m.getModifiers()) || m.isSynthetic()) continue;
            if (!Modifier.isPublic(m.getModifiers()) || m.getReturnType() != int.class) tell("not of the face: " + m);
            open.add(m.getName() + " " + m.getParameterCount());
        }
        if (!open.equals(new TreeSet<>(Arrays.asList(FACE)))) tell("the methods are " + open);
        TreeSet<String> fields = new TreeSet<>();
        for (Field f : it.getDeclaredFields()) {
            if (Modifier.isStatic(f.getModifiers()) && !Modifier.isFinal(f.getModifiers())) tell("not final: " + f);
            if (!Modifier.isPrivate(f.getModifiers())) fields.add(f.getName());
        }
        if (!fields.equals(new TreeSet<>(List.of("NONE", "BAD", "STATE", "FULL")))) tell("the fields are " + fields);
        if (it.getDeclaredConstructors().length != 1) tell("one constructor");
    }

    private static void nested() {
        List<String> names = new ArrayList<>();
        for (String each : FACE) names.add(each.split(" ")[0]);
        Class<?>[] inside = LuteFingers.class.getDeclaredClasses();
        if (inside.length > 12) tell("more than twelve classes");
        List<Class<?>> all = new ArrayList<>(Arrays.asList(inside));
        for (Class<?> each : inside) {
            if (!Modifier.isStatic(each.getModifiers())) tell("not static: " + each);
            if (Modifier.isPublic(each.getModifiers())) tell("public: " + each);
        }
        all.add(LuteFingers.class);
        for (Class<?> each : all) {
            int fields = 0;
            for (Field f : each.getDeclaredFields()) if (!Modifier.isStatic(f.getModifiers())) fields++;
            if (fields > 20) tell("more than twenty fields: " + each);
            for (Method m : each.getDeclaredMethods()) {
                if (m.getParameterCount() > 7) tell("more than seven parameters: " + m);
                if (!Modifier.isPublic(m.getModifiers()) && names.contains(m.getName())) tell("a public one's name: " + m);
            }
        }
    }

    private static void source(String whole) {
        String text = whole.replaceAll("(?s)/\\*.*?\\*/", " ").replaceAll("//[^\n]*", " ");
        String[] never = {"throw", "throws", "try", "catch", "finally", "synchronized", "assert", "package", "native",
            "volatile", "transient", "var", "yield", "Object", "HashMap", "hashCode", "toString", "Exception"};
        for (String word : never) {
            if (Pattern.compile("\\b" + word + "\\b").matcher(text).find()) tell("the word " + word);
        }
        if (text.contains("->") || text.contains("::")) tell("a lambda or a method reference");
        if (Pattern.compile("static\\s*\\{").matcher(text).find()) tell("a static block");
        Matcher imports = Pattern.compile("import ([^;]*);").matcher(text);
        while (imports.find()) if (!imports.group(1).equals("java.util.Arrays")) tell("import " + imports.group(1));
        Matcher library = Pattern.compile("\\b(Arrays|System|Math|Integer|Long|String)\\.(\\w+)").matcher(text);
        List<String> may = List.of("Arrays.fill", "System.arraycopy", "Math.abs", "Math.min", "Math.max",
            "Integer.bitCount");
        while (library.find()) if (!may.contains(library.group())) tell("library: " + library.group());
        methodLengths(whole);
        callDepth(text);
        staticFields(text);
    }

    /** Rule 11: calls that are no recursion go at most eight deep. Methods of one name are taken as one. */
    private static void callDepth(String text) {
        Map<String, String> bodies = new TreeMap<>();
        String head = "\n( {4}| {8})(?:public|private) (?:static )?(?:[\\w\\[\\]]+ )?(\\w+)\\([^)]*\\) \\{";
        Matcher method = Pattern.compile(head).matcher(text);
        while (method.find()) {
            int end = text.indexOf("\n" + method.group(1) + "}", method.end());
            bodies.merge(method.group(2), text.substring(method.end(), end), String::concat);
        }
        if (bodies.size() < FACE.length) tell("the methods are not seen");
        for (String name : bodies.keySet()) {
            int depth = depthOf(name, bodies, new TreeSet<>());
            if (depth > 8) tell(name + " goes " + depth + " calls deep");
        }
    }

    private static int depthOf(String name, Map<String, String> bodies, TreeSet<String> standing) {
        int deepest = 0;
        standing.add(name);
        Matcher call = Pattern.compile("\\b(\\w+)\\(").matcher(bodies.get(name));
        while (call.find()) {
            if (!bodies.containsKey(call.group(1)) || standing.contains(call.group(1))) continue;
            deepest = Math.max(deepest, depthOf(call.group(1), bodies, standing));
        }
        standing.remove(name);
        return deepest + 1;
    }

    /** Rule 5: static fields are constants, or arrays written out and never changed. */
    private static void staticFields(String text) {
        Matcher field = Pattern.compile("\n *(?:public|private) static ([^(;{]*?)(=|;)").matcher(text);
        while (field.find()) {
            String kind = field.group(1);
            if (!kind.matches("final (int|long|boolean|char|String|int\\[\\]) .*")) tell("static: " + kind);
        }
        Matcher array = Pattern.compile("static final int\\[\\] (\\w+)").matcher(text);
        while (array.find()) {
            String change = "\\b" + array.group(1) + "\\[[^]]*\\] *[-+*/|&^]?=[^=]";
            if (Pattern.compile(change).matcher(text).find()) tell("changed: " + array.group(1));
        }
    }

    private static void methodLengths(String whole) {
        String[] lines = whole.split("\n");
        int start = -1;
        for (int i = 0; i < lines.length; i++) {
            if (lines[i].matches(" {4}( {4})?(public|private) .*\\) \\{")) start = i;
            if (start >= 0 && lines[i].matches(" {4}( {4})?\\}")) {
                if (i - start > 60) tell("long: " + lines[start].trim());
                start = -1;
            }
            if (lines[i].length() > 120) tell("a long line: " + (i + 1));
        }
    }

    /** No numbers make a call throw, in any of several states. */
    private static void wildArguments() {
        int[] wild = {Integer.MIN_VALUE, -1000000, -3, -2, -1, 0, 1, 5, 17, 33, 600, 1 << 30, Integer.MAX_VALUE};
        for (int state = 0; state < 5; state++) {
            for (Method m : LuteFingers.class.getMethods()) {
                if (m.getDeclaringClass() != LuteFingers.class) continue;
                int many = (int) Math.pow(wild.length, m.getParameterCount());
                LuteFingers x = null;
                for (int code = 0; code < many; code++) {
                    if (code % 400 == 0) x = inState(state);
                    Integer[] numbers = new Integer[m.getParameterCount()];
                    int rest = code;
                    for (int i = 0; i < numbers.length; i++) {
                        numbers[i] = wild[rest % wild.length];
                        rest /= wild.length;
                    }
                    try {
                        m.invoke(x, (Object[]) numbers);
                    } catch (ReflectiveOperationException e) {
                        tell(m.getName() + Arrays.toString(numbers) + " in state " + state + ": " + e.getCause());
                        return;
                    }
                }
            }
        }
    }

    /** A run of 512 of the dearest calls makes little: what is made once is used again. */
    private static void room() {
        com.sun.management.ThreadMXBean counter =
            (com.sun.management.ThreadMXBean) ManagementFactory.getThreadMXBean();
        long id = Thread.currentThread().getId();
        dearRun();
        long before = counter.getThreadAllocatedBytes(id);
        dearRun();
        long bytes = counter.getThreadAllocatedBytes(id) - before;
        if (bytes > 400_000) tell("a run makes " + bytes + " bytes");
    }

    private static void dearRun() {
        LuteFingers x = new LuteFingers();
        for (int c = 0; c < 6; c++) x.course(40 + 5 * c, 12);
        for (int t = 0; t < 16; t++) {
            for (int i = 0; i < 2; i++) x.note(43 + 5 * i, 0, 1);
            x.tick();
        }
        if (x.way() < 0 || x.next() < 0 || x.arrange() < 0) tell("the dear run has no way");
        for (int i = 0; i < 40; i++) {
            x.fix(0, 0, -1);
            x.way();
            x.next();
            x.rank(8);
            x.write();
            x.arrange();
            x.choose();
            x.say(0);
            x.check();
            x.feed('z');
            x.read();
        }
    }

    private static LuteFingers inState(int state) {
        LuteFingers x = new LuteFingers();
        for (int c = 0; c < (state == 0 ? 0 : state == 1 ? 1 : 6); c++) x.course(40 + 5 * c, 12);
        for (int t = 0; t < (state < 3 ? state : 16); t++) {
            for (int i = 0; i < (state == 4 ? 4 : 1); i++) x.note(43 + 5 * i, t % 2, 1);
            x.tick();
        }
        x.note(43, 0, 1);
        x.way();
        x.arrange();
        return x;
    }
}

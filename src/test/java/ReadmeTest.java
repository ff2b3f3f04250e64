import java.io.IOException;
import java.lang.reflect.Method;
import java.lang.reflect.Modifier;
import java.nio.file.Files;
import java.nio.file.Path;
import java.util.ArrayList;
import java.util.List;
import java.util.TreeSet;
import java.util.regex.Matcher;
import java.util.regex.Pattern;
import java.util.spi.ToolProvider;
import java.util.stream.Stream;

/** What README.md shows compiles and answers as it says; the tests and the command that it names are there. */
public final class ReadmeTest {
    private static final Path README = Path.of("README.md"), CI = Path.of(".ci/run"), TESTS = Path.of("src/test/java");
    private static int wrong = 0;

    public static void main(String[] args) throws IOException, InterruptedException {
        String text = Files.readString(README);
        List<String> programs = blocks(text, "java");
        due("whether there is a program", true, !programs.isEmpty());
        for (String program : programs) programAnswers(program, blocks(text, "sh").get(0));
        everyCallIsShown(String.join("\n", programs));
        commandIsThatOfCi(text.substring(text.indexOf("## Tests")));
        everyTestIsNamed(text);
        everyClassIsNamed(text);
        System.out.println(wrong == 0 ? "README.md is as due" : wrong + " things in README.md are not as due");
        if (wrong != 0) System.exit(1);
    }

    private static void due(String what, Object want, Object got) {
        if (got.equals(want)) return;
        wrong++;
        System.out.println(what + ": " + got + ", due is " + want);
    }

    private static List<String> blocks(String text, String language) {
        List<String> found = new ArrayList<>();
        Matcher block = Pattern.compile("(?s)```" + language + "\n(.*?)```").matcher(text);
        while (block.find()) found.add(block.group(1));
        return found;
    }

    /** Does what README.md says is to be done with the program, in a directory of its own. */
    private static void programAnswers(String program, String commands) throws IOException, InterruptedException {
        Matcher named = Pattern.compile("public final class (\\w+)").matcher(program);
        if (!named.find()) {
            due("a program's class", "a name", "none");
            return;
        }
        String name = named.group(1);
        Path room = Files.createDirectories(Path.of("build", "readme", name));
        Path source = room.resolve(name + ".java");
        Files.writeString(source, program);
        String[] lines = commands.strip().split("\n");
        due("the lines for the use", 2, lines.length);
        List<String> compile = command(lines[0], name, source, room);
        List<String> run = command(lines[1], name, source, room);
        ToolProvider javac = ToolProvider.findFirst(compile.remove(0)).orElseThrow();
        int compiled = javac.run(System.out, System.out, compile.toArray(new String[0]));
        due("javac of " + name, 0, compiled);
        if (compiled != 0) return;
        run.set(0, Path.of(System.getProperty("java.home"), "bin", run.get(0)).toString());
        Process process = new ProcessBuilder(run).redirectErrorStream(true).start();
        String printed = new String(process.getInputStream().readAllBytes());
        due("the end of " + name, 0, process.waitFor());
        answersAreThese(name, program, printed);
    }

    /** README.md tells the commands for its first program; they are the same for each. */
    private static List<String> command(String line, String name, Path source, Path room) {
        List<String> words = new ArrayList<>();
        for (String word : line.split(" ")) {
            if (word.equals("Ways.java")) words.add(source.toString());
            else if (word.equals("Ways")) words.add(name);
            else if (word.equals("build/example")) words.add(room.toString());
            else words.add(word);
        }
        return words;
    }

    private static void answersAreThese(String name, String program, String printed) {
        String[] answers = printed.isEmpty() ? new String[0] : printed.split("\\R");
        int told = 0;
        for (String line : program.split("\n")) {
            if (!line.contains("tell(lute.")) continue;
            Matcher says = Pattern.compile("tell\\((lute\\..*)\\); +// (-?\\d+)(:.*)?").matcher(line.strip());
            if (!says.matches()) {
                due(name, "a call and its answer", line);
                continue;
            }
            due(name + ", " + says.group(1), says.group(2), told < answers.length ? answers[told] : "nothing");
            told++;
        }
        due("how many answers " + name + " prints", told, answers.length);
    }

    private static void everyCallIsShown(String programs) {
        for (Method call : LuteFingers.class.getDeclaredMethods()) {
            if (!Modifier.isPublic(call.getModifiers())) continue;
            due(call.getName() + "() is shown", true, programs.contains("tell(lute." + call.getName() + "("));
        }
    }

    private static void commandIsThatOfCi(String ofTests) throws IOException {
        List<String> named = new ArrayList<>();
        for (String line : blocks(ofTests, "sh").get(0).split("\n")) named.add(line.strip());
        List<String> run = new ArrayList<>();
        for (String line : Files.readAllLines(CI)) {
            if (!line.isBlank() && !line.startsWith("#") && !line.startsWith("cd ")) run.add(line.strip());
        }
        due("what .ci/run runs", named, run);
        for (String line : named) due("whether " + line + " can be run", true, Files.isExecutable(Path.of(line)));
    }

    private static void everyTestIsNamed(String text) throws IOException {
        TreeSet<String> there = new TreeSet<>();
        try (Stream<Path> files = Files.list(TESTS)) {
            files.forEach(file -> there.add(file.getFileName().toString().replace(".java", "")));
        }
        TreeSet<String> named = new TreeSet<>();
        Matcher name = Pattern.compile("`(\\w+Test)`").matcher(text);
        while (name.find()) named.add(name.group(1));
        due("the tests that are named", there, named);
    }

    private static void everyClassIsNamed(String text) {
        for (Class<?> inside : LuteFingers.class.getDeclaredClasses()) {
            due(inside.getSimpleName() + " is named", true, text.contains("`" + inside.getSimpleName() + "`"));
        }
    }
}

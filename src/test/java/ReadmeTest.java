import java.io.IOException;
import java.lang.reflect.Method;
import java.lang.reflect.Modifier;
import java.nio.file.Files;
import java.nio.file.Path;
import java.nio.file.Paths;
import java.util.ArrayList;
import java.util.List;
import java.util.TreeSet;
import java.util.regex.Matcher;
import java.util.regex.Pattern;

/** README.md says what is so: its calls answer what stands behind them, its commands work, what it names is there. */
public final class ReadmeTest {
    private static final Pattern FENCED = Pattern.compile("(?ms)^```(\\w*)\n(.*?)^```$");
    /** A call, two blanks or more, and its answer, or what it throws; a reason may follow behind a colon. */
    private static final Pattern CALL =
            Pattern.compile("desk\\.(\\w+)\\((.*)\\); {2,}// (throws \\w+|-?\\d+(?:\\.\\d+)?)(?:: .+)?");
    private static final Pattern NAMED = Pattern.compile("`([A-Z]\\w+)`");
    private static final Pattern METHOD = Pattern.compile("`(\\w+)\\(\\)`");
    private static final Pattern PATH = Pattern.compile("`([\\w.]+/[\\w./*]+)`");
    private static final String TESTS = "src/test/java/";

    private record Block(String kind, String text, int line) {
    }

    public static void main(String[] args) throws IOException, InterruptedException {
        String readme = Workplace.read(Paths.get("README.md"));
        List<Block> blocks = blocks(readme);
        Workplace place = placeFor(readme, blocks);
        commands(place, blocks);
        calls(place, blocks);
        place.remove();
        names(readme.replaceAll("(?ms)^```.*?^```$", ""));
        Check.end();
    }

    private static List<Block> blocks(String readme) {
        List<Block> blocks = new ArrayList<>();
        Matcher matcher = FENCED.matcher(readme);
        while (matcher.find()) {
            int line = readme.substring(0, matcher.start(2)).split("\n", -1).length;
            blocks.add(new Block(matcher.group(1), matcher.group(2), line));
        }
        return blocks;
    }

    private static boolean isWholeProgram(Block block) {
        return block.kind.equals("java") && block.text.startsWith("public class ");
    }

    // ---- commands

    /** The project, but only those tests that a command names, as .ci/run would come here again. */
    private static Workplace placeFor(String readme, List<Block> blocks) throws IOException {
        StringBuilder commands = new StringBuilder();
        Workplace place = new Workplace();
        for (Block block : blocks) {
            if (block.kind.equals("sh")) {
                commands.append(block.text);
            }
            if (isWholeProgram(block)) {
                String name = block.text.split(" ")[2] + ".java";
                Check.equal(name + " is named", readme.contains("`" + name + "`") ? 1 : 0, 1);
                place.write(name, block.text);
            }
        }
        place.copy("src/main/java/AmplifierDesk.java");
        for (Path file : files(TESTS)) {
            String name = nameOf(file);
            if (!name.endsWith("Test") || commands.toString().matches("(?s).*\\b" + name + "\\b.*")) {
                place.copy(TESTS + name + ".java");
            }
        }
        for (Path file : files("../shared/tests")) {
            place.copy(file.toString());
        }
        return place;
    }

    /** Each block of commands works, and prints what stands in the block behind it, if that is a text. */
    private static void commands(Workplace place, List<Block> blocks) throws IOException, InterruptedException {
        int tried = 0;
        int scripts = 0;
        for (int i = 0; i < blocks.size(); i++) {
            Block block = blocks.get(i);
            if (!block.kind.equals("sh")) {
                continue;
            }
            tried++;
            scripts += block.text.equals(".ci/run\n") ? 1 : 0;
            int end = place.run(block.text);
            Check.equal("the commands of line " + block.line, end, 0);
            if (end != 0) {
                System.out.println(place.printed + place.errors());
            }
            boolean told = i + 1 < blocks.size() && blocks.get(i + 1).kind.equals("text");
            if (told) {
                Check.equal("the commands of line " + block.line + " print", place.printed, blocks.get(i + 1).text);
            }
        }
        Check.equal("blocks of commands", tried, 3);
        Check.equal("how all tests are run", scripts, 1);
    }

    private static List<Path> files(String directory) throws IOException {
        try (var found = Files.walk(Paths.get(directory))) {
            return found.filter(file -> file.toString().endsWith(".java")).sorted().toList();
        }
    }

    private static String nameOf(Path file) {
        return file.getFileName().toString().replaceAll("\\.java$", "");
    }

    // ---- calls

    /** All calls are put into one program, which compares their answers. */
    private static void calls(Workplace place, List<Block> blocks) throws IOException, InterruptedException {
        StringBuilder program = new StringBuilder("public final class ReadmeCalls {\n"
                + "public static void main(String[] args) {\n");
        TreeSet<String> shown = new TreeSet<>();
        for (Block block : blocks) {
            if (block.kind.equals("java") && !isWholeProgram(block)) {
                String[] lines = block.text.split("\n");
                for (int i = 0; i < lines.length; i++) {
                    program.append(statement(lines[i], block.line + i, shown)).append('\n');
                }
            }
        }
        place.write("calls/ReadmeCalls.java", program + "Check.end();\n}\n}\n");
        int end = place.run("javac -d calls src/main/java/AmplifierDesk.java " + TESTS + "Check.java " + TESTS
                + "Told.java calls/ReadmeCalls.java\njava -cp calls ReadmeCalls");
        System.out.print(place.printed + place.errors());
        Check.equal("the calls of README.md", end, 0);
        for (Method method : AmplifierDesk.class.getDeclaredMethods()) {
            if (Modifier.isPublic(method.getModifiers())) {
                Check.equal(method.getName() + " is shown", shown.contains(method.getName()) ? 1 : 0, 1);
            }
        }
    }

    private static String statement(String line, int number, TreeSet<String> shown) {
        Matcher matcher = CALL.matcher(line);
        if (matcher.matches()) {
            String call = "desk." + matcher.group(1) + "(" + matcher.group(2) + ")";
            shown.add(matcher.group(1));
            return "Check.equal(\"line " + number + ", " + call + "\", Told.by(() -> " + call + "), \""
                    + matcher.group(3) + "\");";
        }
        boolean tells = line.contains("//") || line.startsWith("desk.");
        Check.equal("line " + number + " is no call with its answer: " + line, tells ? 1 : 0, 0);
        shown.add(line.contains("desk.append(sign)") ? "append" : "");
        return line;
    }

    // ---- names

    /** Every class, method, test and file that the page names is there, and every test is named. */
    private static void names(String page) throws IOException {
        TreeSet<String> known = new TreeSet<>();
        TreeSet<String> methods = new TreeSet<>();
        learn(AmplifierDesk.class, known, methods);
        for (Class<?> inner : AmplifierDesk.class.getDeclaredClasses()) {
            learn(inner, known, methods);
        }
        TreeSet<String> tests = new TreeSet<>();
        for (Path file : files(TESTS)) {
            known.add(nameOf(file));
            if (nameOf(file).endsWith("Test")) {
                tests.add(nameOf(file));
            }
        }
        Matcher named = NAMED.matcher(page);
        while (named.find()) {
            Check.equal(named.group(1) + " is there", known.contains(named.group(1)) ? 1 : 0, 1);
            tests.remove(named.group(1));
        }
        Check.equal("tests that are not named", tests.toString(), "[]");
        Matcher method = METHOD.matcher(page);
        while (method.find()) {
            Check.equal(method.group(1) + "() is there", methods.contains(method.group(1)) ? 1 : 0, 1);
        }
        Matcher path = PATH.matcher(page);
        while (path.find()) {
            String place = path.group(1).replaceAll("/[^/]*\\*.*", "");
            Check.equal(path.group(1) + " is there", Files.exists(Paths.get(place)) ? 1 : 0, 1);
        }
    }

    private static void learn(Class<?> known, TreeSet<String> classes, TreeSet<String> methods) {
        classes.add(known.getSimpleName());
        for (Method method : known.getDeclaredMethods()) {
            methods.add(method.getName());
        }
    }
}

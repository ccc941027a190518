import java.io.ByteArrayOutputStream;
import java.io.IOException;
import java.io.PrintStream;
import java.net.URL;
import java.net.URLClassLoader;
import java.nio.file.Files;
import java.nio.file.Path;
import java.util.ArrayList;
import java.util.List;
import java.util.Set;
import java.util.TreeSet;
import java.util.regex.Matcher;
import java.util.regex.Pattern;
import java.util.stream.Stream;
import javax.tools.ToolProvider;

/** README.md: what it says is so. */
public final class ReadmeTest {
    private static final Path PAGE = Path.of("README.md");
    private static final Path SOURCE = Path.of("src/main/java/WeaveHall.java");
    private static final Path TESTS = Path.of("src/test/java");
    private static final int LEAST = Integer.MIN_VALUE, GREATEST = Integer.MAX_VALUE;

    public static void main(String[] args) {
        Due.cases(ReadmeTest.class);
    }

    static void theExamplePrintsWhatStandsBelowIt() throws Exception {
        Path place = Files.createTempDirectory("readme");
        Path example = place.resolve("Example.java");
        Files.writeString(example, block("java"));
        int code = ToolProvider.getSystemJavaCompiler().run(null, null, null, "-d", place.toString(),
            SOURCE.toString(), example.toString());
        Due.due("javac", code, 0);
        String printed = code == 0 ? printedBy(place, "Example") : "";
        remove(place);
        same("Example", printed, block("text"));
    }

    static void everyCallStandsThereWithItsParameters() throws IOException {
        String page = Files.readString(PAGE);
        Matcher calls = Pattern.compile("public (?:int|long) (\\w+)\\(([^)]*)\\)").matcher(Files.readString(SOURCE));
        int found = 0;
        while (calls.find()) {
            String names = calls.group(2).replaceAll("(int|long) ", "");
            String call = "| `" + calls.group(1) + "(" + names + ")` |";
            Due.due(call, page.contains(call) ? 1 : 0, 1);
            found++;
        }
        Due.due("calls of the face", found, 17);
    }

    static void everyKindHasTheBoundsAndPortsThatStandThere() throws IOException {
        List<String[]> rows = table("| KIND |");
        Due.due("KINDS", rows.size(), 14);
        for (int kind = 0; kind < rows.size(); kind++) {
            String[] row = rows.get(kind);
            Due.due("the KIND of " + row[0], Integer.parseInt(row[0].split(" ")[0]), kind);
            same("PORTS of " + row[0], row[1], Nets.INS[kind] + ", " + Nets.OUTS[kind]);
            int[] ends = bounds(row[2]);
            for (int a : around(ends)) {
                Due.due("weaver(" + kind + ", " + a + ")", new WeaveHall().weaver(kind, a), isIn(ends, a) ? 0 : -1);
            }
        }
    }

    static void everyStepHasTheBoundsThatStandThere() throws IOException {
        List<String[]> rows = table("| STEP of a SCRIPT |");
        Due.due("STEPS", rows.size(), 8);
        for (int step = 0; step < rows.size(); step++) {
            String[] row = rows.get(step);
            Due.due("the STEP of " + row[0], Integer.parseInt(row[0].split(" ")[0]), step);
            int[] as = bounds(row[1]);
            int[] bs = bounds(row[2]);
            for (int a : around(as)) {
                Due.due("a " + a + " of " + row[0], Nets.alone(13).step(0, step, a, bs[0]), isIn(as, a) ? 1 : -1);
            }
            for (int b : around(bs)) {
                Due.due("b " + b + " of " + row[0], Nets.alone(13).step(0, step, as[1], b), isIn(bs, b) ? 1 : -1);
            }
        }
    }

    static void everyTestIsNamedAndEveryNameIsOfATest() throws IOException {
        Set<String> there = new TreeSet<>();
        try (Stream<Path> files = Files.list(TESTS)) {
            files.forEach(file -> there.add(file.getFileName().toString().replace(".java", "")));
        }
        String page = Files.readString(PAGE);
        for (String name : there) {
            boolean named = page.contains("`" + name + "`") || name.matches("Promise(0[2-9]|1[0-7])\\w+Test");
            Due.due(name + " is named", named ? 1 : 0, 1);
        }
        Matcher names = Pattern.compile("`(\\w+Test)`").matcher(page);
        while (names.find()) {
            Due.due(names.group(1) + " is there", there.contains(names.group(1)) ? 1 : 0, 1);
        }
    }

    static void everyPathThatIsNamedIsThere() throws IOException {
        Pattern path = Pattern.compile("(?<![\\w./])(?:src|\\.ci|\\.\\./shared)/[\\w./]*\\w");
        Matcher files = path.matcher(Files.readString(PAGE));
        int found = 0;
        while (files.find()) {
            Due.due(files.group() + " is there", Files.exists(Path.of(files.group())) ? 1 : 0, 1);
            found++;
        }
        Due.due("some are named", found > 5 ? 1 : 0, 1);
    }

    /** The one block of a language that stands on the page. */
    private static String block(String language) throws IOException {
        Matcher blocks = Pattern.compile("(?s)```" + language + "\n(.*?)```\n").matcher(Files.readString(PAGE));
        return blocks.find() ? blocks.group(1) : "";
    }

    /** The rows of a table, without its head: the cells of each. */
    private static List<String[]> table(String head) throws IOException {
        List<String> lines = Files.readAllLines(PAGE);
        int at = 0;
        while (at < lines.size() && !lines.get(at).startsWith(head)) {
            at++;
        }
        List<String[]> rows = new ArrayList<>();
        for (int i = at + 2; i < lines.size() && lines.get(i).startsWith("|"); i++) {
            rows.add(lines.get(i).substring(2).split(" \\| | \\|"));
        }
        return rows;
    }

    /** "0 to 20", "0 or 1": the least and the greatest that are taken; without such words every number is. */
    private static int[] bounds(String cell) {
        Matcher told = Pattern.compile("\\b(\\d+) (?:to|or) (\\d+)\\b").matcher(cell);
        return told.find() ? new int[] {Integer.parseInt(told.group(1)), Integer.parseInt(told.group(2))}
            : new int[] {LEAST, GREATEST};
    }

    private static int[] around(int[] ends) {
        return ends[0] == LEAST ? new int[] {LEAST, -1, 0, 1, GREATEST}
            : new int[] {LEAST, ends[0] - 1, ends[0], ends[1], ends[1] + 1, GREATEST};
    }

    private static boolean isIn(int[] ends, int n) {
        return n >= ends[0] && n <= ends[1];
    }

    private static String printedBy(Path place, String name) throws Exception {
        ByteArrayOutputStream printed = new ByteArrayOutputStream();
        PrintStream before = System.out;
        // no parent but the machine's own: the class is the one that was compiled with the example
        try (URLClassLoader loader = new URLClassLoader(new URL[] {place.toUri().toURL()},
                ClassLoader.getPlatformClassLoader())) {
            System.setOut(new PrintStream(printed, true));
            loader.loadClass(name).getMethod("main", String[].class).invoke(null, (Object) new String[0]);
        } finally {
            System.setOut(before);
        }
        return printed.toString();
    }

    private static void same(String what, String got, String want) {
        if (!got.equals(want)) {
            System.out.println(what + " is " + got + ", due is " + want);
        }
        Due.due(what, got.equals(want) ? 1 : 0, 1);
    }

    private static void remove(Path place) throws IOException {
        try (Stream<Path> files = Files.list(place)) {
            for (Path file : (Iterable<Path>) files::iterator) {
                Files.delete(file);
            }
        }
        Files.delete(place);
    }
}

import java.io.IOException;
import java.lang.reflect.Method;
import java.lang.reflect.Modifier;
import java.nio.file.FileVisitResult;
import java.nio.file.Files;
import java.nio.file.Path;
import java.nio.file.SimpleFileVisitor;
import java.nio.file.attribute.BasicFileAttributes;
import java.util.ArrayList;
import java.util.List;
import java.util.Set;
import java.util.TreeSet;
import java.util.regex.Matcher;
import java.util.regex.Pattern;

/** Does what README.md shows, word by word, in a copy of the project, and holds what it says against what is there. */
public final class ReadmeRuns {
    private static final String TESTS = ".ci/run";
    private static final Path PROGRAM = Path.of("src/example/java/Weighing.java");
    private static int wrong = 0;

    record Block(String kind, String text) {
    }

    record Ended(int code, String output) {
    }

    private static void require(boolean holds, String what) {
        if (!holds) {
            wrong++;
            System.out.println("README.md does not hold: " + what);
        }
    }

    private static List<Block> blocksOf(String page) {
        List<Block> blocks = new ArrayList<>();
        Matcher fences = Pattern.compile("(?ms)^```(\\w*)\n(.*?)^```$").matcher(page);
        while (fences.find()) {
            blocks.add(new Block(fences.group(1), fences.group(2)));
        }
        return blocks;
    }

    /** The numbers that stand behind the lines that print. */
    private static List<String> shown(String program) {
        List<String> answers = new ArrayList<>();
        for (String line : program.split("\n")) {
            if (line.contains("println(")) {
                Matcher answer = Pattern.compile("; +// (-?\\d+): \\S.*$").matcher(line);
                boolean found = answer.find();
                require(found, "no answer stands behind " + line.strip());
                answers.add(found ? answer.group(1) : "");
            }
        }
        return answers;
    }

    private static Ended run(Path folder, String line) throws Exception {
        Process process = new ProcessBuilder("sh", "-c", line).directory(folder.toFile()).redirectErrorStream(true).start();
        process.getOutputStream().close();
        String output = new String(process.getInputStream().readAllBytes());
        return new Ended(process.waitFor(), output);
    }

    private static Ended runAll(Path folder, String lines) throws Exception {
        Ended last = new Ended(0, "");
        for (String line : lines.split("\n")) {
            last = run(folder, line);
            require(last.code == 0, line + " ended with " + last.code + ":\n" + last.output);
        }
        return last;
    }

    private static void copy(Path from, Path to) throws IOException {
        Files.createDirectories(to.getParent());
        Files.copy(from, to);
    }

    private static void copyTree(Path folder, Path to) throws IOException {
        // The folder itself may be a link, which walk() would not follow.
        Path from = folder.toRealPath();
        try (var all = Files.walk(from)) {
            for (Path one : (Iterable<Path>) all::iterator) {
                if (Files.isRegularFile(one)) {
                    copy(one, to.resolve(from.relativize(one)));
                }
            }
        }
    }

    private static void write(Path file, String text) throws IOException {
        Files.createDirectories(file.getParent());
        Files.writeString(file, text);
    }

    /** The page's program and its lines for the shell, in a copy of the project that has ../shared beside it. */
    private static void doWhatIsShown(String page, Path room) throws Exception {
        Path project = room.resolve("shown/main");
        copyTree(Path.of("src"), project.resolve("src"));
        copyTree(Path.of("../shared"), room.resolve("shown/shared"));
        List<String> answers = null;
        int compared = 0;
        boolean testsAreShown = false;
        for (Block block : blocksOf(page)) {
            if (block.kind.equals("java")) {
                require(block.text.equals(Files.readString(PROGRAM)), "the program shown is not that of " + PROGRAM);
                require(page.contains("`" + PROGRAM + "`"), "it does not tell where its program is");
                answers = shown(block.text);
            } else if (block.text.equals(TESTS + "\n")) {
                testsAreShown = true;
            } else {
                require(block.kind.equals("sh"), "a block of another kind: " + block.kind);
                Ended ended = runAll(project, block.text);
                if (answers != null) {
                    require(ended.output.equals(String.join("\n", answers) + "\n"),
                        "shown is " + answers + ", printed was " + ended.output);
                    compared += answers.size();
                    answers = null;
                }
            }
        }
        require(answers == null && compared > 10, "a program was shown and not run");
        require(testsAreShown && Files.isExecutable(Path.of(TESTS)), TESTS + " is not shown, or cannot be run");
        System.out.println(compared + " answers shown in README.md were asked for");
    }

    private static Set<String> firstColumn(String page, String head) {
        Set<String> names = new TreeSet<>();
        int start = page.indexOf("| " + head + " |");
        require(start >= 0, "there is no table of " + head);
        String table = start < 0 ? "" : page.substring(start).split("\n\n")[0];
        for (String row : table.split("\n")) {
            Matcher name = Pattern.compile("`(\\w+)`").matcher(row.split("\\|").length > 1 ? row.split("\\|")[1] : "");
            while (name.find()) {
                names.add(name.group(1));
            }
        }
        return names;
    }

    private static void tablesAreWhole(String page) throws IOException {
        Set<String> inside = new TreeSet<>();
        for (Class<?> one : SilkHouse.class.getDeclaredClasses()) {
            inside.add(one.getSimpleName());
        }
        require(firstColumn(page, "class inside").equals(inside), "the classes inside are " + inside);
        Set<String> calls = new TreeSet<>();
        for (Method one : SilkHouse.class.getDeclaredMethods()) {
            if (Modifier.isPublic(one.getModifiers())) {
                calls.add(one.getName());
            }
        }
        require(firstColumn(page, "call").equals(calls), "the calls are " + calls);
        Set<String> tests = new TreeSet<>();
        try (var files = Files.list(Path.of("src/test/java"))) {
            files.forEach(file -> tests.add(file.getFileName().toString().replace(".java", "")));
        }
        require(firstColumn(page, "test").equals(tests), "the tests are " + tests);
    }

    private static String testThatEndsWith(String name, int code) {
        return "public final class " + name + " { public static void main(String[] a) { new SilkHouse(); System.exit("
            + code + "); } }\n";
    }

    /** Whether .ci/run passes a small project: its class, a test of its own, and one under ../shared/tests. */
    private static boolean passes(Path small, String body, int ownCode, int givenCode) throws Exception {
        Path main = small.resolve("main");
        write(main.resolve("src/main/java/SilkHouse.java"), "public final class SilkHouse {" + body);
        write(main.resolve("src/test/java/Own.java"), testThatEndsWith("Own", ownCode));
        write(small.resolve("shared/tests/Given.java"), testThatEndsWith("Given", givenCode));
        return run(main, TESTS).code == 0;
    }

    private static void testsFailWhereTheyMust(Path room) throws Exception {
        Path small = room.resolve("small");
        copy(Path.of(TESTS), small.resolve("main").resolve(TESTS));
        require(passes(small, "}", 0, 0), TESTS + " fails though both tests pass");
        require(!passes(small, "}", 1, 0), TESTS + " passes though a test of the project fails");
        require(!passes(small, "}", 0, 1), TESTS + " passes though a test under ../shared/tests fails");
        require(!passes(small, "java.util.List list; }", 0, 0), TESTS + " passes a class with a warning");
        require(!passes(small, "", 0, 0), TESTS + " passes a class that does not compile");
    }

    private static void clear(Path room) throws IOException {
        Files.walkFileTree(room, new SimpleFileVisitor<>() {
            @Override
            public FileVisitResult visitFile(Path file, BasicFileAttributes a) throws IOException {
                Files.delete(file);
                return FileVisitResult.CONTINUE;
            }

            @Override
            public FileVisitResult postVisitDirectory(Path folder, IOException e) throws IOException {
                Files.delete(folder);
                return FileVisitResult.CONTINUE;
            }
        });
    }

    public static void main(String[] args) throws Exception {
        String page = Files.readString(Path.of("README.md"));
        Path room = Files.createTempDirectory("readme");
        try {
            doWhatIsShown(page, room);
            tablesAreWhole(page);
            testsFailWhereTheyMust(room);
        } finally {
            clear(room);
        }
        System.out.println(wrong == 0 ? "README.md holds as it stands" : wrong + " things do not hold");
        if (wrong != 0) {
            System.exit(1);
        }
    }
}

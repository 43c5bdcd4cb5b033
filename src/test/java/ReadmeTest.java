import java.io.IOException;
import java.lang.reflect.Method;
import java.lang.reflect.Modifier;
import java.nio.file.Files;
import java.nio.file.Path;
import java.nio.file.StandardCopyOption;
import java.util.ArrayList;
import java.util.Comparator;
import java.util.List;
import java.util.regex.Matcher;
import java.util.regex.Pattern;
import java.util.stream.Collectors;
import java.util.stream.Stream;

/** README.md as it stands: its example, its commands in a copy of the checkout, and the names that it tells. */
public final class ReadmeTest {
    /** It is left out of the copy, as the copy's .ci/run would come here again. */
    private static final String ITSELF = "ReadmeTest.java";

    private final Path copy;
    private final Path checkout;
    private final String page;
    private final List<Block> blocks = new ArrayList<>();
    private int commands;
    private int wrong;

    /** What stands between two lines of three marks. */
    private static final class Block {
        private final String kind;
        private final String words;

        Block(String kind, String words) {
            this.kind = kind;
            this.words = words;
        }
    }

    private ReadmeTest(Path copy) throws IOException {
        this.copy = copy;
        checkout = copy.resolve("main");
        page = Files.readString(Path.of("README.md"));
        Matcher block = Pattern.compile("(?ms)^```(\\w+)\n(.*?)^```$").matcher(page);
        while (block.find()) {
            blocks.add(new Block(block.group(1), block.group(2)));
        }
    }

    public static void main(String[] args) throws IOException, InterruptedException {
        Path copy = Files.createTempDirectory("readme");
        ReadmeTest test = new ReadmeTest(copy);
        try {
            test.copyAll();
            test.checkNames();
            test.writeExamples();
            test.runCommands();
            test.breakOne();
        } finally {
            delete(copy);
        }
        System.out.println("ReadmeTest: " + test.commands + " runs of commands, " + test.wrong + " wrong");
        if (test.wrong > 0) {
            System.exit(1);
        }
    }

    private void wrong(String what) {
        wrong++;
        System.out.println(what);
    }

    private static List<Path> filesBelow(Path top) throws IOException {
        try (Stream<Path> all = Files.walk(top)) {
            return all.filter(Files::isRegularFile).collect(Collectors.toList());
        }
    }

    private static void delete(Path top) throws IOException {
        try (Stream<Path> all = Files.walk(top)) {
            for (Path one : all.sorted(Comparator.reverseOrder()).collect(Collectors.toList())) {
                Files.delete(one);
            }
        }
    }

    private void copyAll() throws IOException {
        for (String part : List.of("README.md", "src", ".ci")) {
            copyTo(Path.of(part), checkout.resolve(part));
        }
        copyTo(Path.of("../shared").toRealPath(), copy.resolve("shared"));
        Files.delete(checkout.resolve("src/test/java").resolve(ITSELF));
    }

    private static void copyTo(Path from, Path to) throws IOException {
        for (Path file : filesBelow(from)) {
            Path target = to.resolve(from.relativize(file).toString());
            Files.createDirectories(target.getParent());
            Files.copy(file, target, StandardCopyOption.COPY_ATTRIBUTES);
        }
    }

    /** Each call stands in the table, and what looks like a file or folder is there. */
    private void checkNames() {
        for (Method call : Postroom.class.getDeclaredMethods()) {
            if (Modifier.isPublic(call.getModifiers()) && !page.contains("`" + call.getName() + "`")) {
                wrong("README.md does not tell of " + call.getName());
            }
        }
        Matcher name = Pattern.compile("`([\\w.]+(?:/[\\w.]+)+)`").matcher(page);
        while (name.find()) {
            if (!Files.exists(Path.of(name.group(1)))) {
                wrong("README.md tells of " + name.group(1) + ", which is not there");
            }
        }
    }

    private void writeExamples() throws IOException {
        int examples = 0;
        for (Block block : blocks) {
            Matcher name = Pattern.compile("public final class (\\w+)").matcher(block.words);
            if (block.kind.equals("java") && name.find()) {
                Files.writeString(checkout.resolve(name.group(1) + ".java"), block.words);
                examples++;
            }
        }
        if (examples == 0) {
            wrong("README.md has no example");
        }
    }

    /** Runs all commands; what they print is the text that stands next, if one does. */
    private void runCommands() throws IOException, InterruptedException {
        int texts = 0;
        boolean isAllRun = false;
        for (int i = 0; i < blocks.size(); i++) {
            Block block = blocks.get(i);
            if (!block.kind.equals("sh")) {
                continue;
            }
            String printed = printedBy(block.words, 0);
            isAllRun |= block.words.equals(".ci/run\n");
            if (i + 1 < blocks.size() && blocks.get(i + 1).kind.equals("text")) {
                texts++;
                if (!printed.equals(blocks.get(i + 1).words)) {
                    wrong("the example printed:\n" + printed);
                }
            }
        }
        if (texts == 0 || !isAllRun) {
            wrong("README.md does not tell what the example prints, or how all tests are run");
        }
    }

    /** With one test that fails, and no others, so that it takes no time. */
    private void breakOne() throws IOException, InterruptedException {
        delete(checkout.resolve("src/test/java"));
        Files.createDirectories(checkout.resolve("src/test/java"));
        delete(copy.resolve("shared/tests"));
        Files.createDirectories(copy.resolve("shared/tests/more"));
        String source = "public final class %s { public static void main(String[] args) { System.exit(%d); } }";
        Files.writeString(checkout.resolve("src/test/java/GoodTest.java"), String.format(source, "GoodTest", 0));
        printedBy(".ci/run\n", 0);
        Path own = checkout.resolve("src/test/java/BadTest.java");
        Files.writeString(own, String.format(source, "BadTest", 1));
        printedBy(".ci/run\n", 1);
        Files.delete(own);
        Files.writeString(copy.resolve("shared/tests/more/Given.java"), String.format(source, "Given", 1));
        printedBy(".ci/run\n", 1);
    }

    /** What the commands print; the exit code has to be 0, or another one. */
    private String printedBy(String lines, int code) throws IOException, InterruptedException {
        commands++;
        Path told = copy.resolve("told");
        Process shell = new ProcessBuilder("sh", "-e", "-c", lines)
                .directory(checkout.toFile()).redirectError(told.toFile()).start();
        shell.getOutputStream().close();
        String printed = new String(shell.getInputStream().readAllBytes());
        int ended = shell.waitFor();
        if ((ended == 0) != (code == 0)) {
            wrong(lines + "ended with " + ended + ":\n" + printed + Files.readString(told));
        }
        return printed;
    }
}

import java.io.IOException;
import java.nio.file.Files;
import java.nio.file.Path;
import java.util.ArrayList;
import java.util.List;

/** The document, and the tests that quote its sentences: a sentence without a test is told at the end. */
final class Book {
    static final int DESCRIPTION = 0;

    private final List<Section> sections = new ArrayList<>();
    private String testing = "";
    private int tests;
    private int answers;
    private int wrong;

    /** The description (0) or a promise: its lines one behind the other, and which signs of it are quoted. */
    private static final class Section {
        private final StringBuilder words = new StringBuilder();
        private boolean[] quoted = new boolean[0];

        void add(String line) {
            words.append(plain(line)).append('\n');
            quoted = new boolean[words.length()];
        }

        boolean quote(String sentence) {
            int start = words.indexOf(plain(sentence));
            for (int i = Math.max(start, 0); i < start + plain(sentence).length(); i++) {
                quoted[i] = true;
            }
            return start >= 0;
        }

        private boolean isQuoted(int start, int end) {
            for (int i = start; i < end; i++) {
                if (quoted[i]) {
                    return true;
                }
            }
            return false;
        }

        List<String> unquoted() {
            List<String> left = new ArrayList<>();
            int start = 0;
            for (String line : words.toString().split("\n")) {
                int from = start;
                for (String sentence : line.split("(?<=[.;]) ")) {
                    if (needsTest(line) && !isQuoted(from, from + sentence.length())) {
                        left.add(sentence);
                    }
                    from += sentence.length() + 1;
                }
                start += line.length() + 1;
            }
            return left;
        }

        private static String plain(String line) {
            return line.trim().replaceAll("\\s+", " ");
        }

        /** Headings and signatures tell nothing to test, and parameters only if they name a number. */
        private static boolean needsTest(String line) {
            return !line.isEmpty() && !line.matches("(?:#|==|----|`|The constructor and the methods follow).*")
                    && (!line.startsWith("- ") || line.matches(".*[0-9].*|.*NONE.*"));
        }
    }

    Book(Path document) throws IOException {
        Section open = null;
        for (String line : Files.readAllLines(document)) {
            if (line.startsWith("## ")) {
                open = line.equals("## Description") || line.startsWith("## Promise ") ? new Section() : null;
                if (open != null) {
                    sections.add(open);
                }
            } else if (open != null) {
                open.add(line);
            }
        }
    }

    /** Runs the test of a sentence, whose words have to stand in the document. */
    void test(int promise, String sentence, Runnable test) {
        tests++;
        testing = (promise == DESCRIPTION ? "description" : "promise " + promise) + ", \"" + sentence + "\": ";
        if (!sections.get(promise).quote(sentence)) {
            tell("these words do not stand there");
        }
        try {
            test.run();
        } catch (RuntimeException e) {
            tell("threw " + e);
        }
    }

    void due(String call, Object got, Object want) {
        answers++;
        if (!want.equals(got)) {
            tell(call + " answered " + got + ", due is " + want);
        }
    }

    private void tell(String what) {
        wrong++;
        System.out.println(testing + what);
    }

    boolean close() {
        testing = "";
        for (int i = 0; i < sections.size(); i++) {
            for (String sentence : sections.get(i).unquoted()) {
                tell((i == DESCRIPTION ? "description" : "promise " + i) + " has no test of \"" + sentence + "\"");
            }
        }
        System.out.println("SentencesTest: " + tests + " sentences, " + answers + " answers, " + wrong + " wrong");
        return wrong == 0;
    }
}

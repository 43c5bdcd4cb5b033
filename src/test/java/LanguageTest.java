import java.io.IOException;
import java.lang.management.ManagementFactory;
import java.lang.reflect.Constructor;
import java.lang.reflect.Field;
import java.lang.reflect.Member;
import java.lang.reflect.Method;
import java.lang.reflect.Modifier;
import java.nio.file.Files;
import java.nio.file.Path;
import java.util.ArrayList;
import java.util.Arrays;
import java.util.List;
import java.util.Set;
import java.util.TreeSet;
import java.util.regex.Matcher;
import java.util.regex.Pattern;
import java.util.stream.Collectors;

/** What of ../shared/LANGUAGE.md can be seen from the outside, and what a run may make. */
public final class LanguageTest {
    private static final Path PROGRAM = Path.of("src/main/java/Postroom.java");
    private static final Path DOCUMENT = Path.of("../shared/DOC.md");
    private static int wrong;

    public static void main(String[] args) throws IOException {
        String source = Files.readString(PROGRAM);
        checkFace(Files.readString(DOCUMENT));
        checkClasses();
        checkWords(bare(source));
        checkMethodLengths(source);
        checkWhatIsMade();
        System.out.println("LanguageTest: " + wrong + " wrong");
        if (wrong > 0) {
            System.exit(1);
        }
    }

    private static void wrong(String what) {
        wrong++;
        System.out.println(what);
    }

    private static String types(Class<?>[] types) {
        return Arrays.stream(types).map(Class::getSimpleName).collect(Collectors.joining(", "));
    }

    private static String signature(Method method) {
        String thrown = types(method.getExceptionTypes());
        return method.getReturnType().getSimpleName() + " " + method.getName() + "("
                + types(method.getParameterTypes()) + ")" + (thrown.isEmpty() ? "" : " throws " + thrown);
    }

    /** Rule 1: the document's signatures, and nothing else that is not private. */
    private static void checkFace(String document) {
        String face = document.substring(document.indexOf("```java"), document.indexOf("## Description"));
        Set<String> due = new TreeSet<>();
        Matcher line = Pattern.compile("public (\\w+ \\w+)\\((.*?)\\)( throws .*)?;").matcher(face);
        while (line.find()) {
            String types = line.group(2).isEmpty() ? ""
                    : Arrays.stream(line.group(2).split(", ")).map(p -> p.split(" ")[0]).collect(Collectors.joining(", "));
            due.add(line.group(1) + "(" + types + ")" + (line.group(3) == null ? "" : line.group(3)));
        }
        Set<String> got = new TreeSet<>();
        for (Method method : Postroom.class.getDeclaredMethods()) {
            if (!Modifier.isPrivate(method.getModifiers())) {
                got.add(signature(method));
            }
        }
        if (due.size() != 47 || !due.equals(got)) {
            wrong("the face is " + got + ", due is " + due);
        }
    }

    private static void checkClasses() {
        List<Class<?>> all = new ArrayList<>(List.of(Postroom.class));
        all.addAll(List.of(Postroom.class.getDeclaredClasses()));
        if (all.size() > 12) {
            wrong("rule 11: " + all.size() + " classes");
        }
        Set<String> open = new TreeSet<>();
        for (Method method : Postroom.class.getDeclaredMethods()) {
            if (Modifier.isPublic(method.getModifiers())) {
                open.add(method.getName());
            }
        }
        for (Class<?> one : all) {
            checkMembers(one, open);
        }
    }

    private static void checkMembers(Class<?> one, Set<String> open) {
        boolean isOuter = one == Postroom.class;
        if (isOuter != Modifier.isPublic(one.getModifiers()) || !Modifier.isFinal(one.getModifiers())) {
            wrong("rule 1: " + one);
        }
        int fields = 0;
        for (Field field : one.getDeclaredFields()) {
            boolean isConstant = Modifier.isStatic(field.getModifiers());
            fields += isConstant ? 0 : 1;
            if (isConstant && !Modifier.isFinal(field.getModifiers())) {
                wrong("rule 5: " + field);
            }
            checkHidden(field, isOuter);
        }
        if (fields > 20) {
            wrong("rule 11: " + one + " has " + fields + " fields");
        }
        for (Method method : one.getDeclaredMethods()) {
            if (method.getParameterCount() > 7) {
                wrong("rule 11: " + method);
            }
            if (!Modifier.isPublic(method.getModifiers()) && open.contains(method.getName())) {
                wrong("rule 1: the name of " + method);
            }
        }
        for (Constructor<?> constructor : one.getDeclaredConstructors()) {
            if (constructor.getParameterCount() > 7) {
                wrong("rule 11: " + constructor);
            }
        }
    }

    private static void checkHidden(Member member, boolean isOuter) {
        if (isOuter && !Modifier.isPrivate(member.getModifiers())) {
            wrong("rule 1: " + member);
        }
    }

    /** The source without comments, and with empty texts and signs. */
    private static String bare(String source) {
        return source.replaceAll("(?s)/\\*.*?\\*/", "").replaceAll("//[^\n]*", "")
                .replaceAll("\"(?:[^\"\\\\]|\\\\.)*\"", "\"\"").replaceAll("'(?:[^'\\\\]|\\\\.)*'", "''");
    }

    private static void checkWords(String bare) {
        String[][] words = {
            {"6", "\\bcatch\\b|\\bfinally\\b|\\bsynchronized\\b|\\bassert\\b"}, {"2", "->|::"},
            {"10", "\"\"\\s*\\+|\\+\\s*\"\""}, {"5", "\\bstatic\\s*\\{"}, {"13", "\\bSystem\\.(?!arraycopy)"},
            {"4", "Exact\\b"}, {"4", "\\bimport\\b"}, {"6", "\\bequals\\(Object|hashCode|toString\\("},
            {"9", "while \\(true\\)|for \\(;;\\)"}, {"1", "^package"},
        };
        for (String[] word : words) {
            Matcher found = Pattern.compile(word[1]).matcher(bare);
            if (found.find()) {
                wrong("rule " + word[0] + ": " + found.group());
            }
        }
    }

    private static void checkMethodLengths(String source) {
        String head = null;
        int start = 0;
        int number = 0;
        for (String line : source.split("\n")) {
            number++;
            if (line.matches(" {4}(?: {4})?[\\w].*\\(.*") && line.endsWith("{")) {
                head = line;
                start = number;
            } else if (head != null && line.matches(" {4}(?: {4})?}") && number - start > 60) {
                wrong("rule 11: " + head + " has " + (number - start) + " lines");
            }
        }
        if (source.chars().anyMatch(c -> c > 126)) {
            wrong("a sign that is no ASCII");
        }
    }

    /** 600,000 objects and arrays and 7.3 million fields and elements are all that a run may make. */
    private static void checkWhatIsMade() {
        com.sun.management.ThreadMXBean threads = (com.sun.management.ThreadMXBean) ManagementFactory.getThreadMXBean();
        Postroom room = fullRoom();
        room.digest();
        long id = Thread.currentThread().getId();
        String[] calls = {"digest", "isSound", "fault", "typed", "text", "thread", "search"};
        for (String call : calls) {
            long before = threads.getThreadAllocatedBytes(id);
            for (int i = 0; i < 512; i++) {
                ask(room, call);
            }
            long bytes = threads.getThreadAllocatedBytes(id) - before;
            if (bytes > 2_000_000) {
                wrong("512 calls of " + call + " make " + bytes + " bytes");
            }
        }
        long before = threads.getThreadAllocatedBytes(id);
        fullRoom();
        long bytes = threads.getThreadAllocatedBytes(id) - before;
        if (bytes > 400_000) {
            wrong("a full room makes " + bytes + " bytes");
        }
    }

    private static void ask(Postroom room, String call) {
        switch (call) {
            case "digest":
                room.digest();
                break;
            case "isSound":
                room.isSound();
                break;
            case "fault":
                room.fault();
                break;
            case "typed":
                room.typed();
                break;
            case "text":
                room.text(0, 0);
                break;
            case "thread":
                room.thread(0, 29);
                break;
            default:
                room.search(0);
                break;
        }
    }

    private static Postroom fullRoom() {
        Postroom room = new Postroom();
        room.quota(0, 2000);
        room.quota(1, 2000);
        for (int name = 0; name < 30; name++) {
            room.build(name % 16, name, 0, name - 1, name % 16, false);
            room.post(0);
            room.post(1);
        }
        for (int i = 0; i < 80; i++) {
            room.say(0, 16, 8, 0, 39, -1);
        }
        for (int folder = 0; folder < 4; folder++) {
            for (int i = 0; i < 4; i++) {
                room.ask(folder, 7, i, false);
            }
        }
        return room;
    }
}

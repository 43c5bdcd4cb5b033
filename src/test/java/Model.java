import java.util.ArrayList;
import java.util.Collections;
import java.util.Comparator;
import java.util.List;
import java.util.NoSuchElementException;
import java.util.TreeSet;
import java.util.function.Predicate;
import java.util.regex.Matcher;
import java.util.regex.Pattern;
import java.util.stream.Collectors;

/**
 * The document once more, written from its words alone with all of the Java library and no care for
 * speed: nothing is kept that can be asked of the texts. RandomRunsTest holds Postroom against it.
 */
final class Model {
    static final String SIGNS = "abcdefgh FTSIRKX:;,<>@()=?_-0123456789|";

    private static final String WORD = "[a-h0-9-]+";
    private static final String ADDRESS = WORD + "@" + WORD;
    private static final String PHRASE = "[^:;,<>@]*";
    private static final String MAILBOX = " *(?:" + ADDRESS + "|" + PHRASE + "<" + ADDRESS + ">) *";
    private static final String GROUP = " *" + PHRASE + ":(?: *|" + MAILBOX + "(?:," + MAILBOX + ")*); *";
    private static final String ITEM = "(?:" + MAILBOX + "|" + GROUP + ")";
    private static final Pattern LIST = Pattern.compile(" *|" + ITEM + "(?:," + ITEM + ")*");
    private static final Pattern ONE_MAILBOX = Pattern.compile(MAILBOX);
    private static final Pattern ONE_ADDRESS = Pattern.compile(ADDRESS);
    private static final String NUMBER = "(?:0|[1-9][0-9]{0,2})";

    static final class Letter {
        final int number;
        final String text;
        final int time;

        Letter(int number, String text, int time) {
            this.number = number;
            this.text = text;
            this.time = time;
        }

        int name() {
            return Integer.parseInt(value(text, 'I'));
        }
    }

    static final class Held {
        final Letter letter;
        final int place;
        final TreeSet<Integer> flags = new TreeSet<>();
        final TreeSet<Integer> boxes = new TreeSet<>();
        int stamp;

        Held(Letter letter, int place) {
            this.letter = letter;
            this.place = place;
        }
    }

    static final class Store {
        final List<Held> all = new ArrayList<>();
        int quota = 600;
        int count;
        int places;
        int thrown;

        Held of(int letter) {
            return all.stream().filter(h -> h.letter.number == letter).findFirst().orElse(null);
        }

        int signs() {
            return all.stream().mapToInt(h -> h.letter.text.length()).sum();
        }
    }

    record Condition(int kind, int value, int box, boolean mark) { }

    static final class Envelope {
        int letter;
        int address;
        int tries;
        int due;
    }

    private String typed = "";
    private final List<Letter> letters = new ArrayList<>();
    private final Store[] stores = {new Store(), new Store()};
    private final List<Condition> rules = new ArrayList<>();
    private final List<List<Condition>> folders = new ArrayList<>();
    private final List<TreeSet<Integer>> addressMembers = new ArrayList<>();
    private final List<TreeSet<Integer>> listMembers = new ArrayList<>();
    private final TreeSet<Integer> down = new TreeSet<>();
    private List<Envelope> row = new ArrayList<>();
    private int clock;
    private int arrived;
    private int bounced;
    private int knocks;

    Model() {
        for (int i = 0; i < 4; i++) {
            folders.add(new ArrayList<>());
            addressMembers.add(new TreeSet<>());
            listMembers.add(new TreeSet<>());
        }
    }

    // Texts

    static List<String> lines(String text) {
        return List.of(text.split("\\|", -1));
    }

    private static String join(List<String> lines) {
        return String.join("|", lines);
    }

    static String trim(String text) {
        return text.replaceAll("^ +", "").replaceAll(" +$", "");
    }

    int say(int... codes) {
        String next = typed;
        for (int code : codes) {
            if (code < -1 || code > 40) {
                throw new IllegalArgumentException();
            }
        }
        for (int code : codes) {
            if (code == 40) {
                next = "";
            } else if (code == 39) {
                next = next.isEmpty() ? next : next.substring(0, next.length() - 1);
            } else if (code >= 0) {
                next = next + SIGNS.charAt(code);
            }
            if (next.length() > 300) {
                throw new IllegalStateException();
            }
        }
        typed = next;
        return typed.length();
    }

    private static String addressOf(int n) {
        return "abcd".charAt(n % 4) + "@" + "abcd".charAt(n / 4);
    }

    int build(int from, int name, int subject, int ref, int body, boolean isAnswer) {
        if (from < 0 || from > 15 || subject < 0 || subject > 15 || body < 0 || body > 15
                || name < 0 || name > 999 || ref < -1 || ref > 999) {
            throw new IllegalArgumentException();
        }
        List<String> all = new ArrayList<>();
        all.add("F:" + addressOf(from));
        all.add("I:" + name);
        all.add("S:" + (isAnswer ? "a:" : "") + "abcd".charAt(subject % 4) + " " + "abcd".charAt(subject / 4));
        if (ref >= 0) {
            all.add("R:" + ref);
        }
        all.add("T:" + addressOf(body));
        all.add("");
        for (int i = 0; i < body % 4 + 1; i++) {
            all.add(("" + "abcd".charAt(body % 4)).repeat(body / 4 + 2));
        }
        typed = join(all);
        return typed.length();
    }

    int answer(int letter, int from, int name, boolean isForward) {
        Letter old = letter(letter);
        if (from < 0 || from > 15 || name < 0 || name > 999) {
            throw new IllegalArgumentException();
        }
        List<String> all = new ArrayList<>();
        all.add("F:" + addressOf(from));
        all.add("I:" + name);
        all.add("S:" + (isForward ? "f:" : "a:") + base(old));
        if (!isForward) {
            String refs = refs(old).stream().map(n -> n + " ").collect(Collectors.joining());
            all.add("R:" + refs + old.name());
            all.add("T:" + listOf(value(old.text, 'F')).get(0));
        }
        all.add("");
        for (String line : body(lines(old.text))) {
            all.add((isForward ? "" : ">") + line);
        }
        return take(join(all), true);
    }

    /** Makes it what is typed, if it is not too long. */
    private int take(String next, boolean tellsSigns) {
        if (next.length() > 300) {
            return -4;
        }
        typed = next;
        return tellsSigns ? typed.length() : lines(typed).size();
    }

    int poke(int place, int code) {
        if (place < 0 || place >= typed.length()) {
            throw new IndexOutOfBoundsException();
        }
        if (code < 0 || code > 38) {
            throw new IllegalArgumentException();
        }
        int old = SIGNS.indexOf(typed.charAt(place));
        typed = typed.substring(0, place) + SIGNS.charAt(code) + typed.substring(place + 1);
        return old;
    }

    int fold() {
        List<String> all = new ArrayList<>();
        for (String line : lines(typed)) {
            String left = line;
            boolean isBroken = true;
            while (left.length() > 20 && isBroken) {
                int place = left.substring(1, 21).lastIndexOf(' ') + 1;
                if (place == 0) {
                    place = left.indexOf(' ', 21);
                }
                isBroken = place > 0;
                if (isBroken) {
                    all.add(left.substring(0, place));
                    left = left.substring(place);
                }
            }
            all.add(left);
        }
        return take(join(all), false);
    }

    int unfold() {
        return take(typed.replaceAll("\\|(?= )", ""), false);
    }

    int quote() {
        return take(lines(typed).stream().map(l -> ">" + l).collect(Collectors.joining("|")), false);
    }

    int unquote() {
        int begun = (int) lines(typed).stream().filter(l -> l.startsWith(">")).count();
        typed = lines(typed).stream().map(l -> l.startsWith(">") ? l.substring(1) : l).collect(Collectors.joining("|"));
        return begun;
    }

    private static String coded(String line, boolean isB) {
        StringBuilder out = new StringBuilder();
        for (char sign : line.toCharArray()) {
            if (isB) {
                out.append("abcdefgh01234567".charAt(sign / 16)).append("abcdefgh01234567".charAt(sign % 16));
            } else if (("" + sign).matches("[a-h0-9 ]")) {
                out.append(sign);
            } else {
                out.append(String.format("=%02x", (int) sign));
            }
        }
        return out.toString();
    }

    /** What a line says, read by a code; null if it can not be read. */
    private static String read(String line, boolean isB) {
        if (isB) {
            if (!line.matches("(?:[a-h0-7]{2})*")) {
                return null;
            }
            StringBuilder out = new StringBuilder();
            for (int i = 0; i < line.length(); i += 2) {
                out.append((char) ("abcdefgh01234567".indexOf(line.charAt(i)) * 16
                        + "abcdefgh01234567".indexOf(line.charAt(i + 1))));
            }
            return out.toString();
        }
        if (!line.matches("(?:[^=]|=[0-9a-f]{2})*")) {
            return null;
        }
        return Pattern.compile("=(..)").matcher(line).replaceAll(m ->
                Matcher.quoteReplacement("" + (char) Integer.parseInt(m.group(1), 16)));
    }

    int code(boolean isB) {
        return take(lines(typed).stream().map(l -> coded(l, isB)).collect(Collectors.joining("|")), true);
    }

    int uncode(boolean isB) {
        List<String> all = new ArrayList<>();
        for (String line : lines(typed)) {
            String told = read(line, isB);
            if (told == null || told.chars().anyMatch(c -> c == '|' || SIGNS.indexOf(c) < 0)) {
                return -9;
            }
            all.add(told);
        }
        return take(join(all), true);
    }

    String typed() {
        return typed;
    }

    int fault() {
        return fault(typed);
    }

    int depth(int line) {
        if (line < 0) {
            throw new IllegalArgumentException();
        }
        List<String> all = lines(typed);
        return line >= all.size() ? -1 : all.get(line).length() - all.get(line).replaceAll("^>+", "").length();
    }

    // Addresses

    /** Without its comments; null if a parenthesis is in none. */
    private static String bare(String text) {
        String left = text;
        while (!left.equals(left.replaceAll("\\([^()]*\\)", ""))) {
            left = left.replaceAll("\\([^()]*\\)", "");
        }
        return left.matches(".*[()].*") ? null : left;
    }

    /** The addresses of a list; null if it is none. */
    private static List<String> listOf(String text) {
        String bare = bare(text);
        if (bare == null || !LIST.matcher(bare).matches()) {
            return null;
        }
        List<String> all = new ArrayList<>();
        Matcher one = ONE_ADDRESS.matcher(bare);
        while (one.find()) {
            all.add(one.group());
        }
        return all;
    }

    int addresses() {
        List<String> all = listOf(typed);
        return all == null ? -3 : all.size();
    }

    private static String host(String address) {
        return address.substring(address.indexOf('@') + 1);
    }

    String address(int nth, boolean isHost) {
        if (nth < 0) {
            throw new IllegalArgumentException();
        }
        List<String> all = listOf(typed);
        if (all == null || nth >= all.size()) {
            return "";
        }
        return isHost ? host(all.get(nth)) : all.get(nth);
    }

    // Letters as texts

    record Head(int line, char name, String value) { }

    private static int headEnd(List<String> lines) {
        return lines.contains("") ? lines.indexOf("") : lines.size();
    }

    private static List<String> body(List<String> lines) {
        int end = headEnd(lines);
        return end + 1 >= lines.size() ? List.of() : lines.subList(end + 1, lines.size());
    }

    private static boolean isHeadLine(String line) {
        return line.matches("[FTSIRKX]:.*");
    }

    private static List<Head> heads(List<String> lines) {
        List<Head> all = new ArrayList<>();
        for (int i = 0; i < headEnd(lines); i++) {
            if (isHeadLine(lines.get(i))) {
                StringBuilder value = new StringBuilder(lines.get(i).substring(2));
                for (int k = i + 1; k < headEnd(lines) && lines.get(k).startsWith(" "); k++) {
                    value.append(lines.get(k));
                }
                all.add(new Head(i, lines.get(i).charAt(0), trim(value.toString())));
            }
        }
        return all;
    }

    static String value(String text, char name) {
        return value(lines(text), name);
    }

    private static String value(List<String> lines, char name) {
        return heads(lines).stream().filter(h -> h.name == name).map(h -> h.value).findFirst().orElse(null);
    }

    private static String kind(List<String> lines) {
        String kind = value(lines, 'K');
        return kind == null ? "a" : kind;
    }

    private static boolean isGood(Head head, int level) {
        String bare = bare(head.value);
        switch (head.name) {
            case 'F':
                return bare != null && ONE_MAILBOX.matcher(bare).matches();
            case 'T':
                return listOf(head.value) != null;
            case 'I':
                return head.value.matches(NUMBER);
            case 'R':
                return head.value.matches("|" + NUMBER + "(?: +" + NUMBER + ")*");
            case 'K':
                return head.value.matches("[acb]" + (level < 3 ? "|d" + NUMBER : ""));
            default:
                return true;
        }
    }

    /** All wrong lines of a letter (level 0) or part, if its lines are numbered from start on. */
    private static TreeSet<Integer> wrongLines(List<String> lines, int start, int level) {
        TreeSet<Integer> wrong = new TreeSet<>();
        int end = headEnd(lines);
        boolean isInHead = false;
        for (int i = 0; i < end; i++) {
            isInHead = isHeadLine(lines.get(i)) || (isInHead && lines.get(i).startsWith(" "));
            if (!isInHead) {
                wrong.add(start + i);
            }
        }
        String seen = "";
        for (Head head : heads(lines)) {
            boolean isSecond = head.name != 'X' && seen.indexOf(head.name) >= 0;
            if (isSecond || !isGood(head, level)) {
                wrong.add(start + head.line);
            }
            seen += head.name;
        }
        if (level == 0 && (seen.indexOf('F') < 0 || seen.indexOf('I') < 0)) {
            wrong.add(start + end);
        }
        String kind = kind(lines);
        if (kind.equals("c") || kind.equals("b")) {
            for (int i = end + 1; i < lines.size(); i++) {
                if (read(lines.get(i), kind.equals("b")) == null) {
                    wrong.add(start + i);
                }
            }
        }
        if (kind.matches("d" + NUMBER) && level < 3) {
            List<int[]> parts = parts(lines);
            if (parts == null) {
                wrong.add(start + lines.size());
            } else {
                for (int[] part : parts) {
                    wrong.addAll(wrongLines(lines.subList(part[0], part[1]), start + part[0], level + 1));
                }
            }
        }
        return wrong;
    }

    /** From which line to ahead of which each part goes; null if a border is missing. */
    private static List<int[]> parts(List<String> lines) {
        String border = "--" + kind(lines).substring(1);
        int body = headEnd(lines) + 1;
        List<Integer> borders = new ArrayList<>();
        for (int i = body; i < lines.size(); i++) {
            if (lines.get(i).equals(border)) {
                borders.add(i);
            } else if (lines.get(i).equals(border + "-") && !borders.isEmpty()) {
                borders.add(i);
                List<int[]> parts = new ArrayList<>();
                for (int k = 0; k + 1 < borders.size(); k++) {
                    parts.add(new int[] {borders.get(k) + 1, borders.get(k + 1)});
                }
                return parts;
            }
        }
        return null;
    }

    static int fault(String text) {
        TreeSet<Integer> wrong = wrongLines(lines(text), 0, 0);
        return wrong.isEmpty() ? -1 : wrong.first();
    }

    record Leaf(int level, String octets) { }

    private static List<Leaf> leaves(List<String> lines, int level) {
        String kind = kind(lines);
        List<Leaf> all = new ArrayList<>();
        if (kind.startsWith("d")) {
            for (int[] part : parts(lines)) {
                all.addAll(leaves(lines.subList(part[0], part[1]), level + 1));
            }
            return all;
        }
        all.add(new Leaf(level, body(lines).stream()
                .map(l -> kind.equals("a") ? l : read(l, kind.equals("b"))).collect(Collectors.joining("|"))));
        return all;
    }

    private static String subject(Letter letter) {
        String subject = value(letter.text, 'S');
        return subject == null ? "" : subject;
    }

    private static String base(Letter letter) {
        String base = trim(subject(letter));
        while (base.startsWith("a:") || base.startsWith("f:")) {
            base = trim(base.substring(2));
        }
        return base;
    }

    private static boolean answers(Letter letter) {
        return subject(letter).startsWith("a:");
    }

    private static List<Integer> refs(Letter letter) {
        String value = value(letter.text, 'R');
        List<Integer> all = new ArrayList<>();
        if (value != null && !value.isEmpty()) {
            for (String one : value.split(" +")) {
                all.add(Integer.parseInt(one));
            }
        }
        return all;
    }

    private static List<String> to(Letter letter) {
        String value = value(letter.text, 'T');
        return value == null ? List.of() : listOf(value);
    }

    // Stores

    private Store store(int store) {
        if (store != 0 && store != 1) {
            throw new IndexOutOfBoundsException();
        }
        return stores[store];
    }

    private Letter letter(int letter) {
        if (letter < 0 || letter >= letters.size()) {
            throw new IndexOutOfBoundsException();
        }
        return letters.get(letter);
    }

    int post(int number) {
        Store store = store(number);
        if (fault() != -1) {
            return -3;
        }
        int name = Integer.parseInt(value(typed, 'I'));
        Letter old = letters.stream().filter(l -> l.name() == name).findFirst().orElse(null);
        if (old == null && letters.size() == 30) {
            throw new IllegalStateException();
        }
        if (old != null && old.text.equals(typed) && store.of(old.number) != null) {
            return -4;
        }
        if (old != null && !old.text.equals(typed)) {
            return -5;
        }
        if (typed.length() > store.quota) {
            return -6;
        }
        if (old == null) {
            old = new Letter(letters.size(), typed, clock);
            letters.add(old);
        }
        throwOut(store, typed.length());
        come(store, old, new TreeSet<>());
        return old.number;
    }

    private int throwOut(Store store, int more) {
        int thrown = 0;
        while (store.signs() + more > store.quota) {
            List<Predicate<Held>> kinds = List.of(h -> h.flags.contains(3),
                    h -> h.flags.contains(0) && !h.flags.contains(2), h -> !h.flags.contains(2), h -> true);
            for (Predicate<Held> kind : kinds) {
                List<Held> those = store.all.stream().filter(kind).toList();
                if (!those.isEmpty()) {
                    leave(store, those.stream().min(Comparator.comparing(h -> h.place)).get());
                    break;
                }
            }
            store.thrown++;
            thrown++;
        }
        return thrown;
    }

    private static void leave(Store store, Held held) {
        store.all.remove(held);
        store.count++;
    }

    private void come(Store store, Letter letter, TreeSet<Integer> flags) {
        store.places++;
        store.count++;
        Held held = new Held(letter, store.places);
        held.stamp = store.count;
        held.flags.addAll(flags);
        store.all.add(held);
        box(store, held);
    }

    private void box(Store store, Held held) {
        held.boxes.clear();
        for (Condition rule : rules) {
            if (fits(store, held, rule.kind, rule.value)) {
                held.boxes.add(rule.box);
                if (rule.mark) {
                    return;
                }
            }
        }
    }

    private static boolean tell(Store store, Held held, TreeSet<Integer> flags) {
        if (held.flags.equals(flags)) {
            return false;
        }
        held.flags.clear();
        held.flags.addAll(flags);
        store.count++;
        held.stamp = store.count;
        return true;
    }

    private boolean fits(Store store, Held held, int kind, int value) {
        Letter letter = held.letter;
        String sign = value < 8 ? "" + "abcdefgh".charAt(value) : "!";
        switch (kind) {
            case 0:
                return host(listOf(value(letter.text, 'F')).get(0)).startsWith(sign);
            case 1:
                return subject(letter).contains(sign);
            case 2:
                return letter.text.length() >= 10 * value;
            case 3:
                return refs(letter).contains(value);
            case 4:
                return to(letter).stream().anyMatch(a -> a.startsWith(sign));
            case 5:
                return held.flags.contains(value);
            case 6:
                return letter.time >= value;
            case 7:
                Held other = store.of(value);
                return other != null && root(store, other) == root(store, held);
            default:
                throw new NoSuchElementException();
        }
    }

    private static Held parent(Store store, Held held) {
        List<Integer> refs = new ArrayList<>(refs(held.letter));
        Collections.reverse(refs);
        for (int ref : refs) {
            for (Held other : store.all) {
                if (other.letter.name() == ref && ref < held.letter.name()) {
                    return other;
                }
            }
        }
        if (!answers(held.letter) || base(held.letter).isEmpty()) {
            return null;
        }
        Held first = store.all.stream()
                .filter(h -> h != held && base(h.letter).equals(base(held.letter)))
                .min(Comparator.comparing(h -> h.letter.name())).orElse(null);
        return first != null && first.letter.name() < held.letter.name() ? first : null;
    }

    private static Held root(Store store, Held held) {
        Held parent = parent(store, held);
        return parent == null ? held : root(store, parent);
    }

    int flag(int store, int letter, int which, boolean isOn) {
        Held held = store(store).of(letter);
        if (held == null) {
            throw new IndexOutOfBoundsException();
        }
        if (which < 0 || which > 3) {
            throw new IllegalArgumentException();
        }
        boolean before = held.flags.contains(which);
        TreeSet<Integer> flags = new TreeSet<>(held.flags);
        if (isOn) {
            flags.add(which);
        } else {
            flags.remove(which);
        }
        tell(stores[store], held, flags);
        return before ? 1 : 0;
    }

    private static int leaveAll(Store store, Predicate<Held> which) {
        List<Held> those = store.all.stream().filter(which).toList();
        those.forEach(h -> leave(store, h));
        return those.size();
    }

    int expunge(int store) {
        return leaveAll(store(store), h -> h.flags.contains(3));
    }

    int expire(int store, int minutes) {
        store(store);
        if (minutes < 0 || minutes > 999) {
            throw new IllegalArgumentException();
        }
        return leaveAll(stores[store], h -> !h.flags.contains(2) && clock - h.letter.time >= minutes);
    }

    int quota(int store, int signs) {
        store(store);
        if (signs < 100 || signs > 2000) {
            throw new IllegalArgumentException();
        }
        stores[store].quota = signs;
        return throwOut(stores[store], 0);
    }

    int bring() {
        List<Letter> union = letters.stream()
                .filter(l -> stores[0].of(l.number) != null || stores[1].of(l.number) != null)
                .sorted(Comparator.comparing(Letter::name)).toList();
        int signs = union.stream().mapToInt(l -> l.text.length()).sum();
        if (signs > stores[0].quota || signs > stores[1].quota) {
            return -6;
        }
        int changes = 0;
        for (Letter letter : union) {
            Held first = stores[0].of(letter.number);
            Held second = stores[1].of(letter.number);
            if (first == null) {
                come(stores[0], letter, second.flags);
                changes++;
            } else if (second == null) {
                come(stores[1], letter, first.flags);
                changes++;
            } else {
                TreeSet<Integer> flags = new TreeSet<>(first.flags);
                flags.addAll(second.flags);
                if (!first.flags.contains(3) || !second.flags.contains(3)) {
                    flags.remove(3);
                }
                changes += tell(stores[0], first, flags) ? 1 : 0;
                changes += tell(stores[1], second, flags) ? 1 : 0;
            }
        }
        return changes;
    }

    int rule(int kind, int value, int box, boolean isStop) {
        if (kind < 0 || kind > 4 || value < 0 || value > 999 || box < 0 || box > 3) {
            throw new IllegalArgumentException();
        }
        if (rules.size() == 6) {
            throw new IllegalStateException();
        }
        rules.add(new Condition(kind, value, box, isStop));
        return rules.size();
    }

    int unrule() {
        if (!rules.isEmpty()) {
            rules.remove(rules.size() - 1);
        }
        return rules.size();
    }

    int rerun(int store) {
        store(store).all.forEach(h -> box(stores[store], h));
        return (int) stores[store].all.stream().filter(h -> !h.boxes.isEmpty()).count();
    }

    private static String numbers(Store store, Comparator<Held> order, Predicate<Held> which) {
        return store.all.stream().filter(which).sorted(order)
                .map(h -> "" + h.letter.number).collect(Collectors.joining(" "));
    }

    private static final Comparator<Held> BY_NUMBER = Comparator.comparing(h -> h.letter.number);

    String box(int store, int box) {
        store(store);
        if (box < 0 || box > 3) {
            throw new IndexOutOfBoundsException();
        }
        return numbers(stores[store], BY_NUMBER, h -> h.boxes.contains(box));
    }

    int ofStore(int number, int what) {
        Store store = store(number);
        switch (what) {
            case 0:
                return store.all.size();
            case 1:
                return store.signs();
            case 2:
                return store.quota;
            case 3:
                return store.count;
            case 4:
                return store.places;
            case 5:
                return (int) store.all.stream().map(h -> root(store, h)).distinct().count();
            case 6:
            case 7:
            case 8:
            case 9:
                return (int) store.all.stream().filter(h -> h.flags.contains(what - 6)).count();
            case 10:
                return store.thrown;
            default:
                throw new IllegalArgumentException();
        }
    }

    String since(int store, int count) {
        return numbers(store(store), Comparator.comparing(h -> h.stamp), h -> h.stamp > count);
    }

    String search(int store) {
        return numbers(store(store), Comparator.comparing(h -> h.place), h -> h.letter.text.contains(typed));
    }

    // Letters, threads, folders

    int ofLetter(int number, int what) {
        Letter letter = letter(number);
        List<String> all = lines(letter.text);
        switch (what) {
            case 0:
                return letter.name();
            case 1:
                return letter.text.length();
            case 2:
                return heads(all).size();
            case 3:
                return leaves(all, 0).size();
            case 4:
                return letter.time;
            case 5:
                return refs(letter).size();
            case 6:
                return to(letter).size();
            case 7:
                return body(all).size();
            case 8:
                return answers(letter) ? 1 : 0;
            case 9:
                return kind(all).startsWith("d") ? Integer.parseInt(kind(all).substring(1)) : -1;
            default:
                throw new IllegalArgumentException();
        }
    }

    String text(int number, int what) {
        Letter letter = letter(number);
        switch (what) {
            case 0:
                return letter.text;
            case 1:
                return listOf(value(letter.text, 'F')).get(0);
            case 2:
                return subject(letter);
            case 3:
                return base(letter);
            case 4:
                String extra = value(letter.text, 'X');
                return extra == null ? "" : extra;
            case 5:
                return String.join(" ", to(letter));
            default:
                throw new IllegalArgumentException();
        }
    }

    int leaf(int number, int nth, int what) {
        Letter letter = letter(number);
        if (nth < 0 || what < 0 || what > 4) {
            throw new IllegalArgumentException();
        }
        List<Leaf> all = leaves(lines(letter.text), 0);
        if (nth >= all.size()) {
            return -1;
        }
        String octets = all.get(nth).octets;
        switch (what) {
            case 0:
                return octets.length();
            case 1:
                int sum = 0;
                for (int i = 0; i < octets.length(); i++) {
                    sum += (i + 1) * octets.charAt(i);
                }
                return sum;
            case 2:
                return octets.isEmpty() ? -1 : octets.charAt(0);
            case 3:
                return octets.isEmpty() ? -1 : octets.charAt(octets.length() - 1);
            default:
                return all.get(nth).level;
        }
    }

    int held(int number, int letter, int what) {
        Store store = store(number);
        letter(letter);
        if (what < 0 || what > 6) {
            throw new IllegalArgumentException();
        }
        Held held = store.of(letter);
        if (held == null) {
            return -9;
        }
        switch (what) {
            case 0:
                return held.place;
            case 1:
                return held.flags.stream().mapToInt(f -> 1 << f).sum();
            case 2:
                return held.stamp;
            case 3:
                return parent(store, held) == null ? -1 : parent(store, held).letter.number;
            case 4:
                return root(store, held).letter.number;
            case 5:
                return (int) store.all.stream().filter(h -> h.place < held.place).count();
            default:
                return (int) store.all.stream().filter(h -> comesTo(store, parent(store, h), held)).count();
        }
    }

    private static boolean comesTo(Store store, Held from, Held to) {
        return from != null && (from == to || comesTo(store, parent(store, from), to));
    }

    private static String branch(Store store, Held held) {
        List<Held> children = store.all.stream().filter(h -> parent(store, h) == held)
                .sorted(Comparator.comparing(h -> h.letter.name())).toList();
        String own = "" + held.letter.number;
        return children.isEmpty() ? own
                : own + children.stream().map(h -> branch(store, h)).collect(Collectors.joining(" ", "(", ")"));
    }

    String thread(int number, int letter) {
        Store store = store(number);
        letter(letter);
        Held held = store.of(letter);
        return held == null ? "" : branch(store, root(store, held));
    }

    private List<Condition> folder(int folder) {
        if (folder < 0 || folder > 3) {
            throw new IndexOutOfBoundsException();
        }
        return folders.get(folder);
    }

    int ask(int folder, int kind, int value, boolean isNot) {
        List<Condition> question = folder(folder);
        if (kind < 0 || kind > 7 || value < 0 || value > 999) {
            throw new IllegalArgumentException();
        }
        if (question.size() == 4) {
            throw new IllegalStateException();
        }
        question.add(new Condition(kind, value, 0, isNot));
        return question.size();
    }

    int unask(int folder) {
        int size = folder(folder).size();
        folder(folder).clear();
        return size;
    }

    String question(int folder) {
        return folder(folder).stream().map(c -> (c.mark ? "!" : "") + c.kind + ":" + c.value)
                .collect(Collectors.joining("&"));
    }

    String holds(int number, int folder) {
        Store store = store(number);
        List<Condition> question = folder(folder);
        return numbers(store, BY_NUMBER,
                h -> question.stream().allMatch(c -> fits(store, h, c.kind, c.value) != c.mark));
    }

    // Lists, and what goes out

    int member(int list, boolean isList, int number, boolean isIn) {
        if (list < 0 || list > 3) {
            throw new IndexOutOfBoundsException();
        }
        if (number < 0 || number > (isList ? 3 : 15)) {
            throw new IllegalArgumentException();
        }
        TreeSet<Integer> members = (isList ? listMembers : addressMembers).get(list);
        if (isIn) {
            members.add(number);
        } else {
            members.remove(number);
        }
        return listMembers.get(list).size() + addressMembers.get(list).size();
    }

    private TreeSet<Integer> reachedBy(int list) {
        if (list < 0 || list > 3) {
            throw new IndexOutOfBoundsException();
        }
        List<Integer> seen = new ArrayList<>(List.of(list));
        TreeSet<Integer> all = new TreeSet<>();
        for (int i = 0; i < seen.size(); i++) {
            all.addAll(addressMembers.get(seen.get(i)));
            for (int next : listMembers.get(seen.get(i))) {
                if (!seen.contains(next)) {
                    seen.add(next);
                }
            }
        }
        return all;
    }

    int reached(int list) {
        return reachedBy(list).stream().mapToInt(a -> 1 << a).sum();
    }

    int send(int letter, int list) {
        letter(letter);
        TreeSet<Integer> all = reachedBy(list);
        if (row.size() + all.size() > 20) {
            return -4;
        }
        for (int address : all) {
            Envelope envelope = new Envelope();
            envelope.letter = letter;
            envelope.address = address;
            envelope.due = clock;
            row.add(envelope);
        }
        return all.size();
    }

    int down(int address, boolean isDown) {
        if (address < 0 || address > 15) {
            throw new IndexOutOfBoundsException();
        }
        boolean before = down.contains(address);
        if (isDown) {
            down.add(address);
        } else {
            down.remove(address);
        }
        return before ? 1 : 0;
    }

    int tick(int minutes) {
        if (minutes < 1 || minutes > 60) {
            throw new IllegalArgumentException();
        }
        if (clock + minutes > 9999) {
            throw new IllegalStateException();
        }
        int before = arrived;
        for (int i = 0; i < minutes; i++) {
            clock++;
            List<Envelope> stay = new ArrayList<>();
            List<Envelope> again = new ArrayList<>();
            for (Envelope envelope : row) {
                if (envelope.due > clock) {
                    stay.add(envelope);
                } else if (!down.contains(envelope.address)) {
                    arrived++;
                } else if (envelope.tries == 3) {
                    bounced++;
                } else {
                    envelope.tries++;
                    envelope.due = clock + (int) Math.pow(2, envelope.tries);
                    again.add(envelope);
                }
            }
            stay.addAll(again);
            row = stay;
        }
        return arrived - before;
    }

    int ofOut(int place, int what) {
        if (place < 0 || place >= row.size()) {
            throw new IndexOutOfBoundsException();
        }
        if (what < 0 || what > 3) {
            throw new IllegalArgumentException();
        }
        Envelope envelope = row.get(place);
        return new int[] {envelope.letter, envelope.address, envelope.tries, envelope.due}[what];
    }

    int knock() {
        return ++knocks;
    }

    int house(int what) {
        if (what < 0 || what > 8) {
            throw new IllegalArgumentException();
        }
        return new int[] {letters.size(), clock, rules.size(), row.size(), arrived, bounced, typed.length(), knocks,
            folders.stream().mapToInt(List::size).sum()}[what];
    }

    boolean isSound() {
        return true;
    }

    long digest() {
        List<Long> all = new ArrayList<>();
        for (int what = 0; what <= 8; what++) {
            all.add((long) house(what));
        }
        all.add((long) fault());
        all.add((long) addresses());
        for (int i = 0; i < letters.size(); i++) {
            for (int what = 0; what <= 9; what++) {
                all.add((long) ofLetter(i, what));
            }
            for (int what = 0; what <= 5; what++) {
                all.add((long) text(i, what).length());
            }
            for (int nth = 0; nth < ofLetter(i, 3); nth++) {
                for (int what = 0; what <= 4; what++) {
                    all.add((long) leaf(i, nth, what));
                }
            }
        }
        for (int store = 0; store < 2; store++) {
            for (int what = 0; what <= 10; what++) {
                all.add((long) ofStore(store, what));
            }
            for (int i = 0; i < letters.size(); i++) {
                for (int what = 0; what <= 6; what++) {
                    all.add((long) held(store, i, what));
                }
                all.add((long) thread(store, i).length());
            }
            for (int i = 0; i < 4; i++) {
                all.add((long) holds(store, i).length());
            }
            for (int i = 0; i < 4; i++) {
                all.add((long) box(store, i).length());
            }
            all.add((long) since(store, 3).length());
        }
        for (int i = 0; i < 4; i++) {
            all.add((long) question(i).length());
        }
        for (int i = 0; i < 4; i++) {
            all.add((long) reached(i));
        }
        for (int i = 0; i < row.size(); i++) {
            for (int what = 0; what <= 3; what++) {
                all.add((long) ofOut(i, what));
            }
        }
        all.add(isSound() ? 1L : 0L);
        long d = 5802;
        for (long v : all) {
            d = d * 31 + v;
        }
        return d;
    }
}

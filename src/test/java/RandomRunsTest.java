import java.util.ArrayList;
import java.util.List;
import java.util.Random;
import java.util.function.Supplier;

/** Runs of random calls, each asked of Postroom and of Model, which have to answer alike. */
public final class RandomRunsTest {
    /** An object is used for 512 calls; the last one is digest(). */
    private static final int CALLS = 511;

    private final Random random;
    private final Postroom room = new Postroom();
    private final Model model = new Model();
    private final List<String> told = new ArrayList<>();
    private int calls;

    private RandomRunsTest(long seed) {
        random = new Random(seed);
    }

    public static void main(String[] args) {
        long first = args.length > 0 ? Long.parseLong(args[0]) : 1;
        long runs = args.length > 1 ? Long.parseLong(args[1]) : 150;
        for (long seed = first; seed < first + runs; seed++) {
            RandomRunsTest run = new RandomRunsTest(seed);
            String wrong = run.run();
            if (wrong != null) {
                System.out.println("seed " + seed + ": " + wrong);
                System.out.println(run.told.subList(Math.max(0, run.told.size() - 12), run.told.size()));
                System.exit(1);
            }
        }
        System.out.println("RandomRunsTest: " + runs + " runs agree");
    }

    private String run() {
        try {
            weigh();
            while (calls < CALLS) {
                step();
            }
            compare("digest()", room::digest, model::digest);
        } catch (AssertionError e) {
            return e.getMessage();
        }
        return null;
    }

    private void check(String call, Supplier<Object> real, Supplier<Object> due) {
        if (calls < CALLS) {
            compare(call, real, due);
        }
    }

    private void compare(String call, Supplier<Object> real, Supplier<Object> due) {
        calls++;
        Object want = outcome(due);
        Object got = outcome(real);
        told.add(call + " -> " + got);
        if (!got.equals(want)) {
            throw new AssertionError(call + " answered " + got + ", due is " + want + "; typed is " + model.typed());
        }
    }

    private static Object outcome(Supplier<Object> call) {
        try {
            return call.get();
        } catch (RuntimeException e) {
            return e.getClass().getName();
        }
    }

    private int below(int bound) {
        return random.nextInt(bound);
    }

    private boolean coin() {
        return random.nextBoolean();
    }

    private int someLetter() {
        return about(Math.max(1, model.house(0)));
    }

    /** A number of a small range that is sometimes outside it. */
    private int about(int bound) {
        return below(40) == 0 ? pickOf(-1, bound, bound + 1, Integer.MIN_VALUE, Integer.MAX_VALUE) : below(bound);
    }

    private String pick(String... texts) {
        return texts[below(texts.length)];
    }

    private String repeat(int most, Supplier<String> one, String between) {
        StringBuilder out = new StringBuilder();
        int count = below(most + 1);
        for (int i = 0; i < count; i++) {
            out.append(i > 0 ? between : "").append(one.get());
        }
        return out.toString();
    }

    private String word() {
        return pick("a", "b", "c", "h", "4", "-") + repeat(2, () -> pick("a", "d", "f", "0", "-"), "");
    }

    private String address() {
        return word() + "@" + word();
    }

    private String blanks() {
        return pick("", "", "", " ", "  ");
    }

    private String comment(int level) {
        return level > 2 || below(4) > 0 ? "" : "(" + repeat(2, () -> pick("a", " ", ",", "@", comment(level + 1)), "") + ")";
    }

    private String mailbox() {
        String inner = coin() ? address()
                : repeat(3, () -> pick("a", " ", "F", "=", "-"), "") + "<" + address() + ">";
        return blanks() + comment(0) + inner + comment(0) + blanks();
    }

    private String item() {
        return below(4) > 0 ? mailbox()
                : blanks() + pick("", "a", "I ", "a b") + ":" + blanks() + repeat(2, this::mailbox, ",") + ";" + blanks();
    }

    private String list() {
        return below(8) == 0 ? blanks() : repeat(3, this::item, ",");
    }

    private String number() {
        return "" + (below(6) == 0 ? below(1000) : below(40));
    }

    private String heads(boolean isPart, String kind) {
        List<String> heads = new ArrayList<>();
        if (!isPart || below(5) == 0) {
            heads.add("F:" + (below(12) == 0 ? item() : mailbox()));
            heads.add("I:" + blanks() + number());
        }
        if (coin()) {
            heads.add("S:" + blanks() + repeat(3, () -> pick("a:", "f:", "a", "b", " ", "a: "), ""));
        }
        if (coin()) {
            heads.add("R:" + blanks() + repeat(4, this::number, pick(" ", "  ")));
        }
        if (coin()) {
            heads.add("T:" + list());
        }
        if (below(4) == 0) {
            heads.add("X:" + pick("", "a", " b=|  c", "?|"));
        }
        if (!kind.isEmpty()) {
            heads.add("K:" + blanks() + kind);
        }
        if (below(30) == 0) {
            heads.add(pick("X:b", "K:a", "S:a", "I:5", " a", "zzz"));
        }
        StringBuilder out = new StringBuilder();
        while (!heads.isEmpty()) {
            String head = heads.remove(below(heads.size()));
            out.append(out.length() > 0 ? "|" : "").append(head);
            if (below(6) == 0) {
                out.append("| ").append(blanks());
            }
        }
        return out.toString();
    }

    private String letter(int level) {
        int which = below(level < 3 ? 6 : 5);
        String border = "" + below(level + 2);
        String kind = which == 5 ? "d" + border : which == 3 ? "c" : which == 4 ? "b" : pick("", "", "a");
        String heads = heads(level > 0, kind);
        if (which == 5) {
            String mark = "--" + border;
            String parts = repeat(3, () -> letter(level + 1), "|" + mark + "|");
            String tail = below(15) == 0 ? "" : "|" + mark + "-" + pick("", "|a", "|" + mark);
            return heads + "||" + pick("", "a|", mark + "-|") + mark + (parts.isEmpty() ? "" : "|" + parts) + tail;
        }
        String body = repeat(3, () -> bodyLine(which), "|");
        return below(6) == 0 ? heads : heads + "||" + body;
    }

    private String bodyLine(int which) {
        if (which == 3) {
            return repeat(4, () -> pick("a", " ", "=3d", "=ff", "=7c", "?", "-"), "");
        }
        if (which == 4) {
            return repeat(3, () -> pick("a1", "g1", "dh", "77", "0c"), "") + (below(40) == 0 ? "a" : "");
        }
        return repeat(5, () -> pick("a", "b", " ", ">", "=", "--", "0", "X:"), "");
    }

    private String soup() {
        StringBuilder out = new StringBuilder();
        int size = below(6) == 0 ? 240 + below(61) : below(60);
        int blanks = pickOf(2, 8, 20);
        for (int i = 0; i < size; i++) {
            out.append(below(blanks) == 0 ? ' ' : below(8) == 0 ? '|' : Model.SIGNS.charAt(below(39)));
        }
        return out.toString();
    }

    private void say(int... c) {
        check("say" + java.util.Arrays.toString(c), () -> room.say(c[0], c[1], c[2], c[3], c[4], c[5]),
                () -> model.say(c));
    }

    private void type(String text) {
        boolean isFirst = true;
        for (int i = 0; i < text.length() || isFirst;) {
            int[] codes = {-1, -1, -1, -1, -1, -1};
            int from = 0;
            if (isFirst) {
                codes[0] = 40;
                from = 1;
                isFirst = false;
            }
            for (int k = from; k < 6 && i < text.length(); k++) {
                codes[k] = Model.SIGNS.indexOf(text.charAt(i));
                i++;
            }
            say(codes);
        }
    }

    /** How often each kind of step is taken in this run, so that runs differ in what they are about. */
    private final int[] weights = new int[7];

    private void weigh() {
        for (int i = 0; i < weights.length; i++) {
            int weight = 1 + below(6);
            weights[i] = weight * weight;
        }
        weights[0] = weights[0] / 4 + 1;
        weights[1] = weights[1] / 8 + 1;
        if (coin()) {
            for (int i = 0; i < 2; i++) {
                int store = i;
                check("quota(" + store + ", 2000)", () -> room.quota(store, 2000), () -> model.quota(store, 2000));
            }
        }
    }

    private int kindOfStep() {
        int all = 0;
        for (int weight : weights) {
            all += weight;
        }
        int left = below(all);
        int kind = 0;
        while (left >= weights[kind]) {
            left -= weights[kind];
            kind++;
        }
        return kind;
    }

    private void step() {
        switch (kindOfStep()) {
            case 0:
                type(letter(0));
                check("fault()", room::fault, model::fault);
                post();
                lookAt(model.house(0) - 1);
                break;
            case 1:
                type(below(4) > 0 ? list() : soup());
                check("addresses()", room::addresses, model::addresses);
                int nth = about(4);
                boolean isHost = coin();
                check("address(" + nth + ")", () -> room.address(nth, isHost), () -> model.address(nth, isHost));
                break;
            case 2:
                if (coin()) {
                    build();
                } else {
                    answer();
                }
                post();
                break;
            case 3:
                change();
                break;
            case 4:
                keep();
                break;
            case 5:
                for (int i = 0; i < 4; i++) {
                    askFor();
                }
                break;
            default:
                for (int i = 0; i < 3; i++) {
                    sendOut();
                }
                break;
        }
    }

    private void lookAt(int letter) {
        for (int what = 0; what < 5; what++) {
            int which = what;
            int nth = below(3);
            check("leaf(" + letter + ", " + nth + ", " + which + ")", () -> room.leaf(letter, nth, which),
                    () -> model.leaf(letter, nth, which));
            check("text(" + letter + ", " + which + ")", () -> room.text(letter, which + 1),
                    () -> model.text(letter, which + 1));
            check("ofLetter(" + letter + ", " + which + ")", () -> room.ofLetter(letter, which * 2 + 1),
                    () -> model.ofLetter(letter, which * 2 + 1));
        }
    }

    private void build() {
        int from = about(16);
        int name = below(30) == 0 ? about(1000) : below(80);
        int subject = about(16);
        int ref = coin() ? -1 : coin() || model.house(0) == 0 ? below(80) : model.ofLetter(below(model.house(0)), 0);
        int body = about(16);
        boolean isAnswer = coin();
        check("build(" + from + ", " + name + ", " + subject + ", " + ref + ", " + body + ", " + isAnswer + ")",
                () -> room.build(from, name, subject, ref, body, isAnswer),
                () -> model.build(from, name, subject, ref, body, isAnswer));
    }

    private void answer() {
        int letter = someLetter();
        int from = about(16);
        int name = below(30) == 0 ? about(1000) : below(120);
        boolean isForward = coin();
        check("answer(" + letter + ", " + from + ", " + name + ", " + isForward + ")",
                () -> room.answer(letter, from, name, isForward), () -> model.answer(letter, from, name, isForward));
    }

    private void post() {
        int store = about(2);
        check("post(" + store + ")", () -> room.post(store), () -> model.post(store));
        if (below(4) == 0) {
            check("post(" + (1 - store) + ")", () -> room.post(1 - store), () -> model.post(1 - store));
        }
    }

    private void change() {
        boolean isB = coin();
        switch (below(12)) {
            case 0:
                type(soup());
                break;
            case 1:
                check("fold()", room::fold, model::fold);
                break;
            case 2:
                check("unfold()", room::unfold, model::unfold);
                break;
            case 3:
                check("quote()", room::quote, model::quote);
                break;
            case 4:
                check("unquote()", room::unquote, model::unquote);
                break;
            case 5:
                check("code(" + isB + ")", () -> room.code(isB), () -> model.code(isB));
                break;
            case 6:
                check("uncode(" + isB + ")", () -> room.uncode(isB), () -> model.uncode(isB));
                break;
            case 7:
                int line = about(8);
                check("depth(" + line + ")", () -> room.depth(line), () -> model.depth(line));
                break;
            case 8:
                say(about(41), about(41), about(39), below(39), below(39), below(39));
                break;
            case 9:
                type(pick("", "a", "|", ":", "I:1", soup()));
                int store = about(2);
                check("search(" + store + ")", () -> room.search(store), () -> model.search(store));
                break;
            default:
                int place = about(1 + model.typed().length());
                int code = about(39);
                check("poke(" + place + ", " + code + ")", () -> room.poke(place, code), () -> model.poke(place, code));
                break;
        }
        check("typed()", room::typed, model::typed);
        check("fault()", room::fault, model::fault);
        check("addresses()", room::addresses, model::addresses);
    }

    private void keep() {
        int store = about(2);
        int letter = someLetter();
        int which = about(4);
        int value = below(3) == 0 ? below(60) : about(9);
        boolean isOn = below(3) > 0;
        switch (below(14)) {
            case 0:
                check("expunge(" + store + ")", () -> room.expunge(store), () -> model.expunge(store));
                break;
            case 1:
                int minutes = below(20) == 0 ? about(1000) : 10 + below(200);
                check("expire(" + store + ", " + minutes + ")", () -> room.expire(store, minutes),
                        () -> model.expire(store, minutes));
                break;
            case 2:
                int signs = below(20) == 0 ? pickOf(99, 100, 2000, 2001) : 300 + below(1500);
                check("quota(" + store + ", " + signs + ")", () -> room.quota(store, signs),
                        () -> model.quota(store, signs));
                break;
            case 3:
                check("bring()", room::bring, model::bring);
                break;
            case 4:
            case 5:
                int kind = about(5);
                check("rule(" + kind + ", " + value + ", " + which + ", " + isOn + ")",
                        () -> room.rule(kind, value, which, isOn), () -> model.rule(kind, value, which, isOn));
                break;
            case 6:
                check("unrule()", room::unrule, model::unrule);
                break;
            case 7:
                check("rerun(" + store + ")", () -> room.rerun(store), () -> model.rerun(store));
                break;
            case 8:
                int of = about(8);
                int asked = about(40);
                check("ask(" + which + ", " + of + ", " + asked + ", " + isOn + ")",
                        () -> room.ask(which, of, asked, isOn), () -> model.ask(which, of, asked, isOn));
                break;
            case 9:
                if (coin()) {
                    check("unask(" + which + ")", () -> room.unask(which), () -> model.unask(which));
                }
                break;
            default:
                check("flag(" + store + ", " + letter + ", " + which + ", " + isOn + ")",
                        () -> room.flag(store, letter, which, isOn), () -> model.flag(store, letter, which, isOn));
                break;
        }
    }

    private int pickOf(int... numbers) {
        return numbers[below(numbers.length)];
    }

    private void askFor() {
        int store = about(2);
        int letter = someLetter();
        int folder = about(4);
        int what = about(11);
        int some = about(6);
        switch (below(12)) {
            case 0:
                check("box(" + store + ", " + folder + ")", () -> room.box(store, folder), () -> model.box(store, folder));
                break;
            case 1:
                check("ofStore(" + store + ", " + what + ")", () -> room.ofStore(store, what),
                        () -> model.ofStore(store, what));
                break;
            case 2:
                int count = below(60) - 5;
                check("since(" + store + ", " + count + ")", () -> room.since(store, count),
                        () -> model.since(store, count));
                break;
            case 3:
                check("ofLetter(" + letter + ", " + what + ")", () -> room.ofLetter(letter, what),
                        () -> model.ofLetter(letter, what));
                break;
            case 4:
                check("text(" + letter + ", " + some + ")", () -> room.text(letter, some), () -> model.text(letter, some));
                break;
            case 5:
                int nth = about(4);
                check("leaf(" + letter + ", " + nth + ", " + some + ")", () -> room.leaf(letter, nth, some),
                        () -> model.leaf(letter, nth, some));
                break;
            case 6:
            case 7:
                int of = about(7);
                check("held(" + store + ", " + letter + ", " + of + ")", () -> room.held(store, letter, of),
                        () -> model.held(store, letter, of));
                break;
            case 8:
                check("thread(" + store + ", " + letter + ")", () -> room.thread(store, letter),
                        () -> model.thread(store, letter));
                break;
            case 9:
                check("question(" + folder + ")", () -> room.question(folder), () -> model.question(folder));
                break;
            case 10:
                check("holds(" + store + ", " + folder + ")", () -> room.holds(store, folder),
                        () -> model.holds(store, folder));
                break;
            default:
                check("isSound()", room::isSound, model::isSound);
                if (below(12) == 0) {
                    check("digest()", room::digest, model::digest);
                }
                break;
        }
    }

    private void sendOut() {
        int list = about(4);
        boolean isList = below(3) == 0;
        int number = about(isList ? 4 : 16);
        boolean isOn = below(3) > 0;
        int letter = someLetter();
        int place = about(Math.max(1, model.house(3)));
        int what = about(4);
        switch (below(9)) {
            case 0:
            case 1:
                check("member(" + list + ", " + isList + ", " + number + ", " + isOn + ")",
                        () -> room.member(list, isList, number, isOn), () -> model.member(list, isList, number, isOn));
                break;
            case 2:
                check("reached(" + list + ")", () -> room.reached(list), () -> model.reached(list));
                break;
            case 3:
                check("send(" + letter + ", " + list + ")", () -> room.send(letter, list), () -> model.send(letter, list));
                break;
            case 4:
                check("down(" + number + ")", () -> room.down(number, isOn), () -> model.down(number, isOn));
                break;
            case 5:
                int minutes = below(8) == 0 ? about(61) : 1 + below(8);
                check("tick(" + minutes + ")", () -> room.tick(minutes), () -> model.tick(minutes));
                break;
            case 6:
                check("knock()", room::knock, model::knock);
                break;
            case 7:
                int of = about(9);
                check("house(" + of + ")", () -> room.house(of), () -> model.house(of));
                break;
            default:
                check("ofOut(" + place + ", " + what + ")", () -> room.ofOut(place, what), () -> model.ofOut(place, what));
                break;
        }
    }
}

/** The sentences of promises 1 to 16: a new object, and what is typed. */
final class TypedSentences extends Sentences {
    TypedSentences(Book book) {
        super(book);
    }

    void testAll() {
        newObject();
        say();
        build();
        answer();
        answerLimits();
        poke();
        fold();
        quote();
        code();
        uncode();
        depth();
        addresses();
    }

    private void newObject() {
        test(1, "Creates a room with empty stores.", () -> {
            Postroom x = new Postroom();
            for (int store = 0; store < 2; store++) {
                for (int what = 0; what <= 10; what++) {
                    due("ofStore(" + store + ", " + what + ")", x.ofStore(store, what), what == 2 ? 600 : 0);
                }
                for (int i = 0; i < 4; i++) {
                    due("box", x.box(store, i), "");
                    due("holds", x.holds(store, i), "");
                }
                due("since", x.since(store, LOWEST), "");
                due("search", x.search(store), "");
                due("expunge", x.expunge(store), 0);
                due("expire", x.expire(store, 0), 0);
                due("quota", x.quota(store, 100), 0);
                due("rerun", x.rerun(store), 0);
            }
            due("bring", x.bring(), 0);
            for (int what = 0; what <= 8; what++) {
                due("house(" + what + ")", x.house(what), 0);
            }
            for (int i = 0; i < 4; i++) {
                due("question", x.question(i), "");
                due("reached", x.reached(i), 0);
            }
        });
        test(1, "Creates a room with empty stores.", () -> {
            refused(Postroom::new, "ofLetter(0, 0)", x -> x.ofLetter(0, 0), INDEX);
            refused(Postroom::new, "text(0, 0)", x -> x.text(0, 0), INDEX);
            refused(Postroom::new, "leaf(0, 0, 0)", x -> x.leaf(0, 0, 0), INDEX);
            refused(Postroom::new, "held(0, 0, 0)", x -> x.held(0, 0, 0), INDEX);
            refused(Postroom::new, "thread(0, 0)", x -> x.thread(0, 0), INDEX);
            refused(Postroom::new, "flag(0, 0, 0, true)", x -> x.flag(0, 0, 0, true), INDEX);
            refused(Postroom::new, "answer(0, 0, 0, true)", x -> x.answer(0, 0, 0, true), INDEX);
            refused(Postroom::new, "send(0, 0)", x -> x.send(0, 0), INDEX);
            refused(Postroom::new, "ofOut(0, 0)", x -> x.ofOut(0, 0), INDEX);
            refused(Postroom::new, "poke(0, 0)", x -> x.poke(0, 0), INDEX);
        });
    }

    private static int sayAt(Postroom x, int place, int code) {
        int[] codes = {NONE, NONE, NONE, NONE, NONE, NONE};
        codes[place] = code;
        return x.say(codes[0], codes[1], codes[2], codes[3], codes[4], codes[5]);
    }

    /** A room in which a longer text was typed, and looked at, before its last signs were taken away. */
    private static Postroom shortened(String text, String tail) {
        Postroom x = typing(text + tail);
        x.fault();
        x.address(0, false);
        for (int i = 0; i < tail.length(); i++) {
            x.say(39, NONE, NONE, NONE, NONE, NONE);
        }
        return x;
    }

    /** All that one can ask and make of what is typed. */
    private static String ofText(Postroom x) {
        StringBuilder told = new StringBuilder(x.typed());
        told.append('\n').append(x.fault()).append(' ').append(x.addresses()).append(' ').append(x.isSound());
        for (int i = 0; i < 4; i++) {
            told.append(' ').append(x.address(i, false)).append(' ').append(x.address(i, true)).append(' ').append(x.depth(i));
        }
        if (x.post(0) == 0) {
            told.append('\n').append(Probe.of(x));
        }
        String typed = x.typed();
        for (int i = 0; i < 8; i++) {
            Postroom y = type(x, typed);
            int answer = i == 0 ? y.fold() : i == 1 ? y.unfold() : i == 2 ? y.quote() : i == 3 ? y.unquote()
                    : i < 6 ? y.code(i == 4) : y.uncode(i == 6);
            told.append('\n').append(answer).append(' ').append(y.typed());
        }
        return told.toString();
    }

    private void say() {
        test(2, "Types SIGNS behind TYPED, one after the other", () -> {
            Postroom x = new Postroom();
            due("say", x.say(0, 9, 2, 8, 28, 38), 6);
            due("typed", x.typed(), "aFc 0|");
            due("say", x.say(5, 4, 3, 2, 1, 0), 12);
            due("typed", x.typed(), "aFc 0|fedcba");
        });
        test(2, "39 takes its last SIGN away (if there is one)", () -> {
            Postroom x = typing("ab");
            due("the last one", x.say(39, NONE, NONE, NONE, NONE, NONE), 1);
            due("typed", x.typed(), "a");
            due("there is one", x.say(39, NONE, NONE, NONE, NONE, NONE), 0);
            due("there is none", x.say(39, NONE, NONE, NONE, NONE, NONE), 0);
            due("one after the other", x.say(39, 3, 39, 39, 4, 5), 2);
            due("typed", x.typed(), "ef");
        });
        test(2, "takes its last SIGN away", () -> {
            String head = "F:a@a|I:1|";
            String[][] texts = {{"=3", "d"}, {"gb", "gb"}, {"ab|g", "bgb"}, {head + "X", ":"}, {"F:a@a|I:1", "| 2"},
                {"F:a@a|I:1", "|X:"}, {head + "K:d5||--5", "|--5-"}, {head + "K:d5||--5|--5", "-"}, {head + "X:", "|"},
                {head + "K:c||=3", "d"}, {head + "K:c||=", "3d"}, {head + "K:b||g", "b"}, {"a@b", ",c@d"}, {"a@b,", "c@d"},
                {"a@b", ",c@d,e@f"}, {"<a@b", ">"}, {"(a@b", ")"}, {":a@b", ";"}, {"a|", " b"}, {"a|", ">"}, {"", ">"},
                {times(20, "a"), " b"}, {head + "R:1", " 2"}, {head + "S:a", ":b"}, {head + "|", "b"}, {head, "|"}};
            for (String[] text : texts) {
                due("what is left of " + text[0] + text[1], ofText(shortened(text[0], text[1])), ofText(typing(text[0])));
            }
        });
        test(2, "40 empties it", () -> {
            Postroom x = typing(times(300, "a"));
            due("300 signs", x.say(40, NONE, NONE, NONE, NONE, NONE), 0);
            due("typed", x.typed(), "");
            due("none", x.say(40, NONE, NONE, NONE, NONE, NONE), 0);
            due("one after the other", x.say(0, 1, 40, 2, 3, 40), 0);
            due("one after the other", x.say(0, 1, 40, 2, 3, 4), 3);
            due("typed", x.typed(), "cde");
        });
        test(2, "a code, or NONE for nothing", () -> {
            Postroom x = typing("ab");
            due("nothing", x.say(NONE, NONE, NONE, NONE, NONE, NONE), 2);
            due("nothing behind 300", typing(times(300, "a")).say(NONE, NONE, NONE, NONE, NONE, NONE), 300);
            due("nothing but one that goes", typing(times(300, "a")).say(NONE, NONE, NONE, NONE, NONE, 39), 299);
            for (int place = 0; place < 6; place++) {
                due("one at " + place, sayAt(x, place, 2 + place), 3 + place);
            }
            due("typed", x.typed(), "abcdefgh");
        });
        test(2, "Returns how many SIGNS it has then.", () -> {
            Postroom x = new Postroom();
            for (int i = 1; i <= 50; i++) {
                due("say", x.say(0, 1, 2, 3, 4, 5), 6 * i);
            }
            due("say", x.say(39, 39, 39, 39, 39, 39), 294);
        });
        test(2, "if one is not -1 to 40", () -> {
            for (int place = 0; place < 6; place++) {
                int at = place;
                for (int code : new int[] {LOWEST, -2, 41, HIGHEST}) {
                    refused("say(" + code + ") at " + at, x -> sayAt(x, at, code), ARGUMENT);
                }
                due("-1", sayAt(typing("ab"), at, -1), 2);
                due("0", sayAt(typing("ab"), at, 0), 3);
                due("38", sayAt(typing("ab"), at, 38), 3);
                due("39", sayAt(typing("ab"), at, 39), 1);
                due("40", sayAt(typing("ab"), at, 40), 0);
            }
        });
        test(2, "if it would have more than 300 at some moment", () -> {
            due("300", typing(times(294, "a")).say(0, 0, 0, 0, 0, 0), 300);
            refused(() -> typing(times(295, "a")), "301", x -> x.say(0, 0, 0, 0, 0, 0), STATE);
            refused(() -> typing(times(300, "a")), "301", x -> x.say(NONE, NONE, NONE, NONE, NONE, 0), STATE);
            refused(() -> typing(times(300, "a")), "301 for a moment", x -> x.say(0, 39, NONE, NONE, NONE, NONE), STATE);
            refused(() -> typing(times(298, "a")), "301 ahead of 40", x -> x.say(0, 0, 0, 40, NONE, NONE), STATE);
            due("300 again and again", typing(times(300, "a")).say(39, 0, 39, 0, 39, 0), 300);
            due("300 ahead of 40", typing(times(300, "a")).say(40, 0, 0, 0, 0, 0), 5);
        });
        test(2, "Throws `IllegalArgumentException` if one", () ->
            refused(() -> typing(times(300, "a")), "301, and 41", x -> x.say(0, 0, 0, 0, 0, 41), ARGUMENT));
    }

    private void build() {
        test(3, "TYPED becomes a LETTER:", () -> {
            Postroom x = typing(times(300, "a"));
            x.build(6, 12, 7, 345, 7, false);
            due("typed", x.typed(), "F:c@b|I:12|S:d b|R:345|T:d@b||ddd|ddd|ddd|ddd");
            due("fault", x.fault(), NONE);
            x.build(0, 0, 0, NONE, 0, false);
            due("typed", x.typed(), "F:a@a|I:0|S:a a|T:a@a||aa");
            due("fault", x.fault(), NONE);
            x.build(15, 999, 15, 999, 15, false);
            due("typed", x.typed(), "F:d@d|I:999|S:d d|R:999|T:d@d||ddddd|ddddd|ddddd|ddddd");
            due("fault", x.fault(), NONE);
        });
        test(3, "\"F:\", the ADDRESS; \"I:\", the NUMBER;", () -> {
            Postroom x = new Postroom();
            for (int number : new int[] {0, 9, 10, 99, 100, 999}) {
                x.build(number % 16, number, 0, NONE, 0, false);
                String from = "abcd".charAt(number % 4) + "@" + "abcd".charAt(number % 16 / 4);
                due("heads", x.typed(), "F:" + from + "|I:" + number + "|S:a a|T:a@a||aa");
            }
        });
        test(3, "\"S:\", perhaps \"a:\"", () -> {
            Postroom x = new Postroom();
            x.build(1, 2, 3, NONE, 4, true);
            due("typed", x.typed(), "F:b@a|I:2|S:a:d a|T:a@b||aaa");
            x.build(1, 2, 3, NONE, 4, false);
            due("typed", x.typed(), "F:b@a|I:2|S:d a|T:a@b||aaa");
        });
        test(3, "the letter subject MOD 4 of \"abcd\", a blank, the letter subject / 4 of it", () -> {
            Postroom x = new Postroom();
            for (int subject = 0; subject < 16; subject++) {
                x.build(0, 1, subject, NONE, 0, false);
                x.post(0);
                due("subject", x.text(0, 2), "abcd".charAt(subject % 4) + " " + "abcd".charAt(subject / 4));
                x = new Postroom();
            }
        });
        test(3, "\"R:\" and the NUMBER, if there is one; \"T:\" and the ADDRESS body; an empty LINE;", () -> {
            Postroom x = new Postroom();
            for (int number : new int[] {0, 9, 10, 99, 100, 999}) {
                x.build(0, 1, 0, number, 12, false);
                due("heads", x.typed(), "F:a@a|I:1|S:a a|R:" + number + "|T:a@d||aaaaa");
            }
        });
        test(3, "body MOD 4 + 1 LINES, each with body / 4 + 2 times the letter body MOD 4 of \"abcd\"", () -> {
            String[] bodies = {"aa", "bb|bb", "cc|cc|cc", "dd|dd|dd|dd", "aaa", "bbb|bbb", "ccc|ccc|ccc",
                "ddd|ddd|ddd|ddd", "aaaa", "bbbb|bbbb", "cccc|cccc|cccc", "dddd|dddd|dddd|dddd", "aaaaa",
                "bbbbb|bbbbb", "ccccc|ccccc|ccccc", "ddddd|ddddd|ddddd|ddddd"};
            for (int body = 0; body < 16; body++) {
                Postroom x = new Postroom();
                x.build(0, 1, 0, NONE, body, false);
                String typed = x.typed();
                due("body " + body, typed.substring(typed.indexOf("||") + 2), bodies[body]);
            }
        });
        test(3, "the NUMBER of R; NONE for no R", () -> {
            Postroom x = new Postroom();
            x.build(0, 1, 0, 0, 0, false);
            due("0", x.typed(), "F:a@a|I:1|S:a a|R:0|T:a@a||aa");
            x.build(0, 1, 0, NONE, 0, false);
            due("NONE", x.typed(), "F:a@a|I:1|S:a a|T:a@a||aa");
        });
        test(3, "Returns how many SIGNS it has then.", () -> {
            Postroom x = new Postroom();
            due("the least", x.build(0, 0, 0, NONE, 0, false), 25);
            due("the most", x.build(0, 999, 0, 999, 15, true), 56);
            due("signs", x.house(6), 56);
        });
        test(3, "if from, subject or body is not 0 to 15, name not 0 to 999, or ref not -1 to 999", () -> {
            for (int bad : new int[] {LOWEST, -1, 16, HIGHEST}) {
                refused("from " + bad, x -> x.build(bad, 1, 1, 1, 1, false), ARGUMENT);
                refused("subject " + bad, x -> x.build(1, 1, bad, 1, 1, false), ARGUMENT);
                refused("body " + bad, x -> x.build(1, 1, 1, 1, bad, false), ARGUMENT);
            }
            for (int bad : new int[] {LOWEST, -1, 1000, HIGHEST}) {
                refused("name " + bad, x -> x.build(1, bad, 1, 1, 1, false), ARGUMENT);
            }
            for (int bad : new int[] {LOWEST, -2, 1000, HIGHEST}) {
                refused("ref " + bad, x -> x.build(1, 1, 1, bad, 1, false), ARGUMENT);
            }
            Postroom x = new Postroom();
            due("all lowest", x.build(0, 0, 0, -1, 0, false), 25);
            due("all highest", x.build(15, 999, 15, 999, 15, false), 54);
        });
    }

    private static String answered(String letter, boolean isForward) {
        Postroom x = holding(letter);
        x.answer(0, 6, 30, isForward);
        return x.typed();
    }

    private void answer() {
        test(4, "TYPED becomes an answer, or what is passed on", () -> {
            String letter = "X:h|F:b <c@d>|T:e@f|I:5|S:g||a||>b";
            due("an answer", answered(letter, false), "F:c@b|I:30|S:a:g|R:5|T:c@d||>a|>|>>b");
            due("what is passed on", answered(letter, true), "F:c@b|I:30|S:f:g||a||>b");
        });
        test(4, "\"F:\", the ADDRESS; \"I:\", the NUMBER;", () -> {
            Postroom x = holding("F:a@a|I:1");
            for (int number : new int[] {0, 9, 10, 99, 100, 999}) {
                x.answer(0, number % 16, number, true);
                String from = "abcd".charAt(number % 4) + "@" + "abcd".charAt(number % 16 / 4);
                due("heads", x.typed(), "F:" + from + "|I:" + number + "|S:f:|");
            }
        });
        test(4, "\"S:\", \"a:\" (\"f:\"), the BASE of the LETTER", () -> {
            due("a base", answered("F:a@a|I:1|S: f: a: b a: ", false), "F:c@b|I:30|S:a:b a:|R:1|T:a@a|");
            due("a base", answered("F:a@a|I:1|S: f: a: b a: ", true), "F:c@b|I:30|S:f:b a:|");
            due("an empty base", answered("F:a@a|I:1|S:a:", false), "F:c@b|I:30|S:a:|R:1|T:a@a|");
            due("no subject", answered("F:a@a|I:1", true), "F:c@b|I:30|S:f:|");
            due("two lines", answered("F:a@a|I:1|S:a:| b| c", true), "F:c@b|I:30|S:f:b c|");
        });
        test(4, "\"R:\" and its R (the NUMBERS, with one blank between two), a blank if there is one, and its NAME", () -> {
            due("no R", answered("F:a@a|I:1", false), "F:c@b|I:30|S:a:|R:1|T:a@a|");
            due("an empty R", answered("F:a@a|I:1|R:", false), "F:c@b|I:30|S:a:|R:1|T:a@a|");
            due("one", answered("F:a@a|I:1|R: 0 ", false), "F:c@b|I:30|S:a:|R:0 1|T:a@a|");
            due("three", answered("F:a@a|I:1|R:7  999|  7 ", false), "F:c@b|I:30|S:a:|R:7 999 7 1|T:a@a|");
        });
        test(4, "then \"T:\" and the ADDRESS of its F", () -> {
            due("with a phrase", answered("F: a(b) <c@d> |I:1", false), "F:c@b|I:30|S:a:|R:1|T:c@d|");
            due("with a comment", answered("F:a(b)b@c(d)d |I:1", false), "F:c@b|I:30|S:a:|R:1|T:ab@cd|");
        });
        test(4, "an empty LINE; the LINES of its BODY (if answered, each with \">\" ahead)", () -> {
            due("no body", answered("F:a@a|I:1|", false), "F:c@b|I:30|S:a:|R:1|T:a@a|");
            due("one empty line", answered("F:a@a|I:1||", false), "F:c@b|I:30|S:a:|R:1|T:a@a||>");
            due("two empty lines", answered("F:a@a|I:1|||", false), "F:c@b|I:30|S:a:|R:1|T:a@a||>|>");
            due("no body", answered("F:a@a|I:1|", true), "F:c@b|I:30|S:f:|");
            due("one empty line", answered("F:a@a|I:1||", true), "F:c@b|I:30|S:f:||");
            due("two empty lines", answered("F:a@a|I:1|||", true), "F:c@b|I:30|S:f:|||");
            due("as it was written", answered("F:a@a|I:1|K:c||=3d", false), "F:c@b|I:30|S:a:|R:1|T:a@a||>=3d");
        });
    }

    private void answerLimits() {
        test(4, "It is LET.", () -> {
            // "F:a@a|I:1||" becomes "F:a@a|I:2|S:a:|R:1|T:a@a||>", 16 signs more
            refused(() -> holding(sized(1, 285)), "an answer of 301 signs", x -> x.answer(0, 0, 2, false), -4);
            refused(() -> holding(sized(1, 296)), "301 signs to pass on", x -> x.answer(0, 0, 2, true), -4);
        });
        test(4, "Returns how many SIGNS it has then; -4, if these would be more than 300.", () -> {
            due("an answer of 300 signs", holding(sized(1, 284)).answer(0, 0, 2, false), 300);
            due("300 signs to pass on", holding(sized(1, 295)).answer(0, 0, 2, true), 300);
            due("the least", holding("F:a@a|I:1").answer(0, 0, 2, true), 15);
            // 300 signs in 289 lines are answered by 604, the most that there can be
            Postroom x = holding("F:a@a|I:1||" + times(289, "|"));
            due("the most", x.answer(0, 0, 2, false), -4);
        });
        test(4, "if there is no such LETTER", () -> {
            for (int bad : new int[] {LOWEST, -1, 3, 29, 30, HIGHEST}) {
                refused("letter " + bad, x -> x.answer(bad, 0, 0, false), INDEX);
                refused("letter " + bad + ", and from", x -> x.answer(bad, 16, 0, true), INDEX);
                refused("letter " + bad + ", and name", x -> x.answer(bad, 0, -1, true), INDEX);
            }
            due("letter 0", busy().answer(0, 0, 0, true), 21);
            due("letter 2", busy().answer(2, 0, 0, true), 30);
            due("letter 29", full().answer(29, 0, 0, true), 21);
            refused(Sentences::full, "letter 30", x -> x.answer(30, 0, 0, true), INDEX);
        });
        test(4, "if from is not 0 to 15, or name not 0 to 999", () -> {
            for (int bad : new int[] {LOWEST, -1, 16, HIGHEST}) {
                refused("from " + bad, x -> x.answer(0, bad, 0, false), ARGUMENT);
            }
            for (int bad : new int[] {LOWEST, -1, 1000, HIGHEST}) {
                refused("name " + bad, x -> x.answer(0, 0, bad, false), ARGUMENT);
            }
            refused(() -> holding(sized(1, 300)), "from, and 301 signs", x -> x.answer(0, 16, 2, false), ARGUMENT);
            due("the lowest", busy().answer(0, 0, 0, true), 21);
            due("the highest", busy().answer(0, 15, 999, true), 23);
        });
    }

    private void poke() {
        test(5, "Changes a SIGN of TYPED.", () -> {
            Postroom x = typing("abc");
            x.poke(1, 38);
            due("typed", x.typed(), "a|c");
        });
        test(5, "Returns the code of that which was there.", () -> {
            for (int code = 0; code <= 38; code++) {
                due("code " + code, typing("a" + SIGNS.charAt(code)).poke(1, 38 - code), code);
            }
        });
        test(5, "if there is no such place", () -> {
            Postroom x = typing("abc");
            due("the first place", x.poke(0, 8), 0);
            due("the last place", x.poke(2, 8), 2);
            due("typed", x.typed(), " b ");
            for (int bad : new int[] {LOWEST, -1, 3, 300, HIGHEST}) {
                refused(() -> typing("abc"), "place " + bad, y -> y.poke(bad, 0), INDEX);
                refused(() -> typing("abc"), "place " + bad + ", and a code", y -> y.poke(bad, 39), INDEX);
            }
            refused(() -> typing(""), "place 0 of none", y -> y.poke(0, 0), INDEX);
            due("place 299", typing(times(300, "b")).poke(299, 0), 1);
            refused(() -> typing(times(300, "b")), "place 300", y -> y.poke(300, 0), INDEX);
        });
        test(5, "if code is not 0 to 38", () -> {
            for (int bad : new int[] {LOWEST, -1, 39, 40, HIGHEST}) {
                refused("code " + bad, y -> y.poke(0, bad), ARGUMENT);
            }
            Postroom x = typing("F");
            due("0", x.poke(0, 0), 9);
            due("38", x.poke(0, 38), 0);
            due("typed", x.typed(), "|");
        });
    }

    private void fold() {
        test(6, "FOLDS each LINE of TYPED.", () -> {
            Postroom x = typing(times(20, "a") + " b|" + times(20, "c") + " d||e f");
            x.fold();
            due("typed", x.typed(), times(20, "a") + "| b|" + times(20, "c") + "| d||e f");
            x.quote();
            x.unquote();
            x.fold();
            due("once more", x.typed(), times(20, "a") + "| b|" + times(20, "c") + "| d||e f");
            Postroom y = typing("|" + times(18, "a") + " b|");
            due("a line of 20 signs behind an empty one", y.fold(), 3);
        });
        test(6, "It is LET.", () ->
            refused(() -> typing(times(280, "a") + " " + times(19, "b")), "fold", Postroom::fold, -4));
        test(6, "Returns how many LINES it has then; -4, if it would have more than 300 SIGNS.", () -> {
            due("an empty text", typing("").fold(), 1);
            due("empty lines", typing(times(300, "|")).fold(), 301);
            due("two pieces, and one", typing(times(20, "a") + " b|c").fold(), 3);
            Postroom x = typing(times(279, "a") + " " + times(19, "b"));
            due("to 300 signs", x.fold(), 2);
            due("signs", x.house(6), 300);
            due("300 signs that stay", typing(times(300, "a")).fold(), 1);
            refused(() -> typing(times(300, " ")), "300 blanks", Postroom::fold, -4);
        });
        test(7, "UNFOLDS TYPED.", () -> {
            Postroom x = typing("a| b||  c|d|");
            x.unfold();
            due("typed", x.typed(), "a b|  c|d|");
            x.search(0);
            x.unquote();
            x.unfold();
            due("once more", x.typed(), "a b  c|d|");
        });
        test(7, "Returns how many LINES it has then.", () -> {
            due("an empty text", typing("").unfold(), 1);
            due("lines", typing("a| b||  c|d|").unfold(), 4);
            due("the most", typing(times(300, "|")).unfold(), 301);
            due("all go", typing(times(150, "| ")).unfold(), 1);
        });
    }

    private void quote() {
        test(8, "\">\" comes ahead of each LINE of TYPED.", () -> {
            Postroom x = typing("a||>b|");
            x.quote();
            due("typed", x.typed(), ">a|>|>>b|>");
            Postroom y = typing("");
            y.quote();
            due("an empty text", y.typed(), ">");
        });
        test(8, "It is LET.", () -> {
            refused(() -> typing(times(300, "a")), "301 signs", Postroom::quote, -4);
            refused(() -> typing(times(149, "|") + "aa"), "301 signs", Postroom::quote, -4);
        });
        test(8, "Returns how many LINES it has; -4, if it would have more than 300 SIGNS.", () -> {
            due("an empty text", typing("").quote(), 1);
            Postroom x = typing(times(299, "a"));
            due("one line", x.quote(), 1);
            due("signs", x.house(6), 300);
            Postroom y = typing(times(149, "|") + "a");
            due("150 lines", y.quote(), 150);
            due("signs", y.house(6), 300);
            refused(() -> typing(times(300, "|")), "601 signs", Postroom::quote, -4);
        });
        test(9, "A \">\" goes from each LINE of TYPED that begins with one.", () -> {
            Postroom x = typing(">a|b>|>>c|| >|>");
            x.unquote();
            due("typed", x.typed(), "a|b>|>c|| >|");
        });
        test(9, "Returns from how many.", () -> {
            due("three", typing(">a|b>|>>c|| >|>").unquote(), 3);
            due("one", typing(">").unquote(), 1);
            due("none", typing("a>|").unquote(), 0);
            due("an empty text", typing("").unquote(), 0);
            due("150", typing(times(150, ">|")).unquote(), 150);
        });
    }

    private void code() {
        test(10, "Each LINE of TYPED becomes that in a CODE.", () -> {
            Postroom x = typing("a9 |F||:");
            x.code(false);
            due("q", x.typed(), "a9 |=46||=3a");
            // 97, 57, 32, 70 and 58 are 6 * 16 + 1, 3 * 16 + 9, 2 * 16, 4 * 16 + 6 and 3 * 16 + 10
            Postroom y = typing("a9 |F||:");
            y.code(true);
            due("b", y.typed(), "gbd1ca|eg||d2");
        });
        test(10, "It is LET.", () -> {
            refused(() -> typing(times(100, "=") + "a"), "q of 301 signs", x -> x.code(false), -4);
            refused(() -> typing(times(150, "a") + "|"), "b of 301 signs", x -> x.code(true), -4);
        });
        test(10, "Returns how many SIGNS it has then; -4, if these would be more than 300.", () -> {
            due("an empty text", typing("").code(false), 0);
            due("an empty text", typing("").code(true), 0);
            due("q of 300 signs", typing(times(100, "=")).code(false), 300);
            due("q of 300 signs", typing(times(300, "a")).code(false), 300);
            due("b of 300 signs", typing(times(150, "a")).code(true), 300);
            due("b of 300 signs", typing(times(149, "a") + "||").code(true), 300);
            refused(() -> typing(times(300, "=")), "q of 900 signs", x -> x.code(false), -4);
        });
    }

    private void uncode() {
        test(11, "Each LINE of TYPED becomes what it says, read by a CODE.", () -> {
            Postroom x = typing("a=3d=20|=46=5f||?|-");
            due("q", x.uncode(false), 11);
            due("typed", x.typed(), "a= |F_||?|-");
            Postroom y = typing("gbd1||d2");
            due("b", y.uncode(true), 5);
            due("typed", y.typed(), "a9||:");
        });
        test(11, "It is LET; it can't be done, if a LINE can not be read so", () -> {
            for (String bad : new String[] {"=", "=3", "=|3d", "=3|d", "=3g", "=g3", "==3d", "=3=", "=-3", "=3 "}) {
                refused(() -> typing("a|" + bad), "q of " + bad, x -> x.uncode(false), -9);
                refused(() -> typing(bad + "|a"), "q of " + bad, x -> x.uncode(false), -9);
            }
            for (String bad : new String[] {"g", "gbg", "g|b", "g8", "8b", "g9", "9b", "g ", " b", "g-", "=6"}) {
                refused(() -> typing("gb|" + bad), "b of " + bad, x -> x.uncode(true), -9);
                refused(() -> typing(bad + "|gb"), "b of " + bad, x -> x.uncode(true), -9);
            }
        });
        test(11, "or an OCTET is that of no SIGN", () -> {
            String q = "0123456789abcdef";
            String b = "abcdefgh01234567";
            for (int octet = 0; octet < 256; octet++) {
                boolean isSign = SIGNS.indexOf((char) octet) >= 0 && octet != '|';
                Postroom x = typing("=" + q.charAt(octet / 16) + q.charAt(octet % 16));
                due("q of " + octet, x.uncode(false), isSign ? 1 : -9);
                Postroom y = typing("" + b.charAt(octet / 16) + b.charAt(octet % 16));
                due("b of " + octet, y.uncode(true), isSign ? 1 : -9);
            }
            refused(() -> typing("a|a=69"), "q of 105", x -> x.uncode(false), -9);
            refused(() -> typing("gb|g1gb"), "b of 105", x -> x.uncode(true), -9);
        });
        test(11, "or that of \"|\".", () -> {
            refused(() -> typing("a|=7cb"), "q of 124", x -> x.uncode(false), -9);
            refused(() -> typing("gb|h4gb"), "b of 124", x -> x.uncode(true), -9);
        });
        test(11, "Returns how many SIGNS it has then; -9 if it can't be done.", () -> {
            due("an empty text", typing("").uncode(false), 0);
            due("an empty text", typing("").uncode(true), 0);
            due("empty lines", typing("||").uncode(false), 2);
            due("empty lines", typing("||").uncode(true), 2);
            due("300 signs by q", typing(times(100, "=3d")).uncode(false), 100);
            due("300 signs by q", typing(times(300, "a")).uncode(false), 300);
            due("300 signs by b", typing(times(150, "gb")).uncode(true), 150);
        });
    }

    private void depth() {
        test(12, "Returns TYPED.", () -> {
            due("a new object", new Postroom().typed(), "");
            due("all signs", typing(SIGNS).typed(), SIGNS);
            due("300 signs", typing(times(60, "aF |9")).typed(), times(60, "aF |9"));
        });
        test(13, "Returns FAULT of TYPED.", () -> {
            due("an empty text", new Postroom().fault(), 0);
            due("a letter", typing("F:a@a|I:1").fault(), NONE);
            due("300 signs", typing("F:a@a|I:1|X" + times(289, "|")).fault(), 2);
            due("301 lines", typing(times(300, "|")).fault(), 0);
            due("299 lines", typing("F:a@a|I:1|" + times(290, "|")).fault(), NONE);
            due("the last line", typing("F:a@a|I:1|K:b|" + times(285, "|") + "a").fault(), 288);
        });
        test(14, "a LINE of TYPED, from 0 on", () -> {
            Postroom x = typing(">>a|>b|c");
            due("0", x.depth(0), 2);
            due("1", x.depth(1), 1);
            due("2", x.depth(2), 0);
        });
        test(14, "Returns with how many \">\" it begins; NONE, if there are not so many LINES.", () -> {
            Postroom x = typing(">|> >|a>|");
            due("the whole line", x.depth(0), 1);
            due("behind a blank", x.depth(1), 1);
            due("behind a sign", x.depth(2), 0);
            due("the last one, which is empty", x.depth(3), 0);
            due("one more", x.depth(4), NONE);
            due("the highest", x.depth(HIGHEST), NONE);
            due("the line of an empty text", new Postroom().depth(0), 0);
            due("a second one", new Postroom().depth(1), NONE);
            due("300", typing(times(300, ">")).depth(0), 300);
            due("the last of 301", typing(times(299, "|") + "|").depth(300), 0);
            due("behind 301", typing(times(300, "|")).depth(301), NONE);
        });
        test(14, "if line is below 0", () -> {
            refused("-1", x -> x.depth(-1), ARGUMENT);
            refused("the lowest", x -> x.depth(LOWEST), ARGUMENT);
        });
    }

    private void addresses() {
        test(15, "Returns how many ADDRESSES TYPED has as an ADDRESS LIST; -3, if it is none.", () -> {
            due("an empty text", new Postroom().addresses(), 0);
            due("one", typing("a@b").addresses(), 1);
            due("the most", typing(times(74, "a@b,") + "cc@d").addresses(), 75);
            due("none", typing(times(75, "a@b,")).addresses(), -3);
            due("none", typing("a").addresses(), -3);
        });
        test(16, "which one, from 0 on", () -> {
            Postroom x = typing("a@b,c: d <e@f>,g@h;");
            due("0", x.address(0, false), "a@b");
            due("1", x.address(1, false), "e@f");
            due("2", x.address(2, false), "g@h");
        });
        test(16, "whether its HOST alone", () -> {
            Postroom x = typing("a@b,c: d <e@f0-> ;");
            due("0", x.address(0, true), "b");
            due("1", x.address(1, true), "f0-");
            due("1", x.address(1, false), "e@f0-");
        });
        test(16, "Returns that ADDRESS of TYPED as an ADDRESS LIST; \"\" if there are not so many, or it is none.", () -> {
            Postroom x = typing(times(74, "a@b,") + "c@d-");
            due("the last one", x.address(74, false), "c@d-");
            due("one more", x.address(75, false), "");
            due("the highest", x.address(HIGHEST, true), "");
            due("an empty list", new Postroom().address(0, false), "");
            due("no list", typing("a@b,").address(0, false), "");
            due("no list", typing("a@b,").address(0, true), "");
            due("less than before", type(x, "a@b,a@b").address(2, false), "");
            due("none any more", type(x, " ").address(0, false), "");
            due("300 signs", typing(times(149, "a") + "@" + times(150, "b")).address(0, true), times(150, "b"));
        });
        test(16, "if nth is below 0", () -> {
            refused("-1", x -> x.address(-1, false), ARGUMENT);
            refused("the lowest", x -> x.address(LOWEST, true), ARGUMENT);
            refused(() -> typing("a@b"), "-1 of a list", x -> x.address(-1, true), ARGUMENT);
        });
    }
}

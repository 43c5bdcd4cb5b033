/** The sentences of promises 30 to 38: letters, threads, folders. */
final class LetterSentences extends Sentences {
    private static final int[] NO_LETTERS = {LOWEST, -1, 3, 29, 30, HIGHEST};
    private static final int[] NO_FOLDERS = {LOWEST, -1, 4, HIGHEST};
    /** 102 signs in 12 lines; it has a parent if one with the name 5 or 12 is held. */
    private static final String RICH = "X: b=| c  |S: a: f: a b|F:c(d)@d (e)|I:77|R:5  12 5|X:e|"
            + "T:a@b, g: c@d,<e@f>;||ab||c";

    LetterSentences(Book book) {
        super(book);
    }

    void testAll() {
        ofLetter();
        text();
        leaf();
        held();
        heldRefused();
        thread();
        ask();
        unask();
        holds();
    }

    private void ofLetter() {
        test(30, "0 NAME, 1 SIGNS, 2 HEADS, 3 LEAVES, 4 TIME, 5 how many NUMBERS R has, 6 how many ADDRESSES T has, 7 LINES of its BODY, 8 1 if it ANSWERS, otherwise 0, 9 the BORDER of its KIND (NONE)", () -> {
            Postroom x = new Postroom();
            x.tick(3);
            post(x, 0, RICH);
            x.tick(4);
            post(x, 1, "F:a@a|I:0|S:f:a:|K:d12||--12|R:1||--12||a|--12|K:d1||--1|--1|--1-|--12-");
            post(x, 1, "F:a@a|I:999");
            int[][] want = {{77, RICH.length(), 7, 1, 3, 3, 3, 3, 1, -1}, {0, 71, 4, 4, 7, 0, 0, 13, 0, 12},
                {999, 11, 2, 1, 7, 0, 0, 0, 0, -1}};
            for (int letter = 0; letter < 3; letter++) {
                for (int what = 0; what <= 9; what++) {
                    due("ofLetter(" + letter + ", " + what + ")", x.ofLetter(letter, what), want[letter][what]);
                }
            }
        });
        test(30, "Returns that.", () -> {
            due("the most signs", holding(sized(1, 300)).ofLetter(0, 1), 300);
            due("the fewest signs", holding("F:a@a|I:1").ofLetter(0, 1), 9);
            due("the most heads", holding("F:a@a|I:1" + times(97, "|X:")).ofLetter(0, 2), 99);
            due("the most leaves", holding("F:a@a|I:0|K:d0||--0" + times(68, "|--0") + "|--0-").ofLetter(0, 3), 69);
            due("the most numbers", holding("F:a@a|I:2|R:" + times(143, "0 ") + "7").ofLetter(0, 5), 144);
            due("the most addresses", holding("F:a@a|I:1|T:" + times(71, "a@a,") + "b@b").ofLetter(0, 6), 72);
            due("the most lines", holding("F:a@a|I:1|" + times(290, "|")).ofLetter(0, 7), 290);
            due("no line", holding("F:a@a|I:1|").ofLetter(0, 7), 0);
            due("an empty line", holding("F:a@a|I:1||").ofLetter(0, 7), 1);
            due("border 0", holding("F:a@a|I:1|K:d0||--0|--0-").ofLetter(0, 9), 0);
            due("border 999", holding("F:a@a|I:1|K:d999||--999|--999-").ofLetter(0, 9), 999);
            Postroom x = new Postroom();
            for (int i = 0; i < 166; i++) {
                x.tick(60);
            }
            x.tick(39);
            post(x, 0, "F:a@a|I:1");
            due("the latest time", x.ofLetter(0, 4), 9999);
        });
        test(30, "if there is no such LETTER", () -> {
            for (int letter : NO_LETTERS) {
                refused("letter " + letter, x -> x.ofLetter(letter, 0), INDEX);
                refused("letter " + letter + ", and what", x -> x.ofLetter(letter, 10), INDEX);
            }
            due("letter 0", full().ofLetter(0, 0), 0);
            due("letter 29", full().ofLetter(29, 0), 29);
            refused(Sentences::full, "letter 30", x -> x.ofLetter(30, 0), INDEX);
            Postroom x = holding("F:a@a|I:7");
            x.expire(0, 0);
            due("one that is held in no store", x.ofLetter(0, 0), 7);
        });
        test(30, "if what is not 0 to 9", () -> {
            for (int what : new int[] {LOWEST, -1, 10, HIGHEST}) {
                refused("what " + what, x -> x.ofLetter(0, what), ARGUMENT);
            }
        });
    }

    private void text() {
        test(31, "0 its text, 1 the ADDRESS of F, 2 SUBJECT, 3 BASE, 4 the VALUE of X (of the first one; \"\" without), 5 the ADDRESSES of T with a blank between two", () -> {
            Postroom x = holding(RICH, "F:a <a@b>|I:0", "F:a@a|I:1|S:a:|X:|X:b|T:");
            String[][] want = {{RICH, "c@d", "a: f: a b", "a b", "b= c", "a@b c@d e@f"},
                {"F:a <a@b>|I:0", "a@b", "", "", "", ""}, {"F:a@a|I:1|S:a:|X:|X:b|T:", "a@a", "a:", "", "", ""}};
            for (int letter = 0; letter < 3; letter++) {
                for (int what = 0; what <= 5; what++) {
                    due("text(" + letter + ", " + what + ")", x.text(letter, what), want[letter][what]);
                }
            }
        });
        test(31, "Returns that.", () -> {
            due("the most signs", holding(sized(1, 300)).text(0, 0), sized(1, 300));
            due("one address of T", holding("F:a@a|I:1|T:b:c@d;").text(0, 5), "c@d");
            due("the most addresses", holding("F:a@a|I:1|T:" + times(71, "a@a,") + "b@b").text(0, 5),
                    times(71, "a@a ") + "b@b");
            due("a long subject", holding("F:a@a|I:1|S:" + times(288, "f")).text(0, 3), times(288, "f"));
        });
        test(31, "if there is no such LETTER", () -> {
            for (int letter : NO_LETTERS) {
                refused("letter " + letter, x -> x.text(letter, 0), INDEX);
                refused("letter " + letter + ", and what", x -> x.text(letter, 6), INDEX);
            }
            due("letter 29", full().text(29, 0), "F:a@a|I:29|S:a a|T:a@a||aa");
            Postroom x = holding("F:a@a|I:7");
            x.expire(0, 0);
            due("one that is held in no store", x.text(0, 0), "F:a@a|I:7");
        });
        test(31, "if what is not 0 to 5", () -> {
            for (int what : new int[] {LOWEST, -1, 6, HIGHEST}) {
                refused("what " + what, x -> x.text(0, what), ARGUMENT);
            }
        });
    }

    private void leaf(Postroom x, int letter, int nth, int... want) {
        for (int what = 0; what <= 4; what++) {
            due("leaf(" + letter + ", " + nth + ", " + what + ")", x.leaf(letter, nth, what), want[what]);
        }
    }

    private void leaf() {
        test(32, "0 how many OCTETS, 1 these summed, the first one once, the second one twice, and so on, 2 the first one (NONE), 3 the last one (NONE), 4 in how many PARTS it lies (0: the LETTER itself)", () -> {
            Postroom x = holding("F:a@a|I:0||a||b", "F:a@a|I:1",
                    "F:a@a|I:2|K:d1||--1|K:d2||--2|K:d3||--3||b|--3-|--2||c|--2-|--1|--1||d|--1-");
            leaf(x, 0, 0, 4, 97 + 2 * 124 + 3 * 124 + 4 * 98, 97, 98, 0);
            leaf(x, 1, 0, 0, 0, -1, -1, 0);
            leaf(x, 2, 0, 1, 98, 98, 98, 3);
            leaf(x, 2, 1, 1, 99, 99, 99, 2);
            leaf(x, 2, 2, 0, 0, -1, -1, 1);
            leaf(x, 2, 3, 1, 100, 100, 100, 1);
        });
        test(32, "a LEAF, from 0 on", () -> {
            Postroom x = holding("F:a@a|I:2|K:d1||--1||a|--1||b|--1||c|--1-");
            due("0", x.leaf(0, 0, 2), 97);
            due("1", x.leaf(0, 1, 2), 98);
            due("2", x.leaf(0, 2, 2), 99);
        });
        test(32, "Returns that; NONE, if there are not so many.", () -> {
            Postroom x = holding("F:a@a|I:1||a", "F:a@a|I:2|K:d1||--1||a|--1||b|--1-",
                    "F:a@a|I:0|K:d0||--0" + times(68, "|--0") + "|--0-");
            for (int what = 0; what <= 4; what++) {
                due("a second leaf", x.leaf(0, 1, what), NONE);
                due("a third leaf", x.leaf(1, 2, what), NONE);
                due("the highest", x.leaf(1, HIGHEST, what), NONE);
                due("a 70th leaf", x.leaf(2, 69, what), NONE);
            }
            leaf(x, 1, 1, 1, 98, 98, 98, 1);
            leaf(x, 2, 68, 0, 0, -1, -1, 1);
            Postroom y = holding("F:a@a|I:1||" + times(289, "h"));
            leaf(y, 0, 0, 289, 104 * 289 * 290 / 2, 104, 104, 0);
        });
        test(32, "if there is no such LETTER", () -> {
            for (int letter : NO_LETTERS) {
                refused("letter " + letter, x -> x.leaf(letter, 0, 0), INDEX);
                refused("letter " + letter + ", and nth", x -> x.leaf(letter, -1, 0), INDEX);
                refused("letter " + letter + ", and what", x -> x.leaf(letter, 0, 5), INDEX);
            }
            due("letter 29", full().leaf(29, 0, 0), 2);
        });
        test(32, "if nth is below 0, or what not 0 to 4", () -> {
            refused("nth -1", x -> x.leaf(0, -1, 0), ARGUMENT);
            refused("the lowest nth", x -> x.leaf(0, LOWEST, 0), ARGUMENT);
            for (int what : new int[] {LOWEST, -1, 5, HIGHEST}) {
                refused("what " + what, x -> x.leaf(0, 0, what), ARGUMENT);
                refused("what " + what + " of no leaf", x -> x.leaf(0, 9, what), ARGUMENT);
            }
        });
    }

    private void held() {
        test(33, "0 PLACE, 1 the set of its FLAGS (the sum of 2^k), 2 STAMP, 3 PARENT (NONE), 4 ROOT, 5 how many are HELD with a smaller PLACE, 6 from how many LETTERS one comes to it (to PARENTS and on)", () -> {
            Postroom x = holding("F:a@a|I:10", "F:a@a|I:9", "F:a@a|I:20|R:10", "F:a@a|I:30|R:20", "F:a@a|I:31|R:20",
                    "F:a@a|I:40|R:30");
            x.flag(0, 1, 3, true);
            x.expunge(0);
            x.flag(0, 3, 0, true);
            x.flag(0, 3, 2, true);
            x.flag(0, 2, 1, true);
            x.flag(0, 2, 3, true);
            // 6 came, one got a flag and left, then one after the other got two flags
            int[][] want = {{1, 0, 1, -1, 0, 0, 4}, {-9, -9, -9, -9, -9, -9, -9}, {3, 10, 12, 0, 0, 1, 3},
                {4, 5, 10, 2, 0, 2, 1}, {5, 0, 5, 2, 0, 3, 0}, {6, 0, 6, 3, 0, 4, 0}};
            for (int letter = 0; letter < 6; letter++) {
                for (int what = 0; what <= 6; what++) {
                    due("held(0, " + letter + ", " + what + ")", x.held(0, letter, what), want[letter][what]);
                }
            }
        });
        test(33, "1 the set of its FLAGS (the sum of 2^k)", () -> {
            Postroom x = holding("F:a@a|I:1");
            for (int which = 0; which < 4; which++) {
                x.flag(0, 0, which, true);
                due("flags", x.held(0, 0, 1), (2 << which) - 1);
            }
        });
        test(33, "Returns that; -9, if it is not HELD there.", () -> {
            Postroom x = holding("F:a@a|I:1");
            for (int what = 0; what <= 6; what++) {
                due("held in the other store", x.held(1, 0, what), -9);
            }
            x.expire(0, 0);
            for (int what = 0; what <= 6; what++) {
                due("it left", x.held(0, 0, what), -9);
            }
        });
    }

    private void heldRefused() {
        test(33, "if store is not 0 or 1, or there is no such LETTER", () -> {
            for (int store : NO_STORES) {
                refused("store " + store, x -> x.held(store, 0, 0), INDEX);
                refused("store " + store + ", and what", x -> x.held(store, 0, 7), INDEX);
            }
            for (int letter : NO_LETTERS) {
                refused("letter " + letter, x -> x.held(0, letter, 0), INDEX);
                refused("letter " + letter + ", and what", x -> x.held(1, letter, 7), INDEX);
            }
            due("letter 29", full().held(0, 29, 0), 30);
            due("letter 29", full().held(1, 29, 0), -9);
            refused(Sentences::full, "letter 30", x -> x.held(0, 30, 0), INDEX);
        });
        test(33, "if what is not 0 to 6", () -> {
            for (int what : new int[] {LOWEST, -1, 7, HIGHEST}) {
                refused("what " + what, x -> x.held(0, 0, what), ARGUMENT);
                refused("what " + what + " of one that is not held", x -> x.held(1, 0, what), ARGUMENT);
            }
        });
    }

    private void thread() {
        test(34, "Returns its THREAD from the ROOT on: the number of a LETTER, and, if it is PARENT of others, \"(\", this of these by rising NAMES with a blank between two, \")\"", () -> {
            Postroom x = holding("F:a@a|I:1", "F:a@a|I:9|R:1", "F:a@a|I:3|R:1", "F:a@a|I:5|R:3", "F:a@a|I:4|R:3", "F:a@a|I:2");
            for (int letter = 0; letter < 5; letter++) {
                due("thread", x.thread(0, letter), "0(2(4 3) 1)");
            }
            due("alone", x.thread(0, 5), "5");
            Postroom y = holding("F:a@a|I:1", "F:a@a|I:999", "F:a@a|I:2|R:1", "F:a@a|I:3|R:1", "F:a@a|I:4", "F:a@a|I:5|R:3");
            due("that of the document", y.thread(0, 3), "0(2 3(5))");
        });
        test(34, "(\"0(2 3(5))\")", () -> {
            Postroom x = full();
            due("alone", x.thread(0, 29), "29");
            StringBuilder chain = new StringBuilder("0");
            StringBuilder flat = new StringBuilder("0(1");
            Postroom deep = new Postroom();
            Postroom wide = new Postroom();
            deep.quota(0, 2000);
            wide.quota(0, 2000);
            post(deep, 0, "F:a@a|I:100");
            post(wide, 0, "F:a@a|I:100");
            for (int i = 1; i < 30; i++) {
                post(deep, 0, "F:a@a|I:" + (100 + i) + "|R:" + (99 + i));
                post(wide, 0, "F:a@a|I:" + (100 + i) + "|R:100");
                chain.append('(').append(i);
                flat.append(i == 1 ? "" : " " + i);
            }
            due("one behind the other", deep.thread(0, 29), chain + times(29, ")"));
            due("all of one", wide.thread(0, 7), flat + ")");
            due("29 come to it", deep.held(0, 0, 6) + " " + wide.held(0, 0, 6), "29 29");
        });
        test(34, "\"\" if it is not HELD there.", () -> {
            Postroom x = holding("F:a@a|I:1", "F:a@a|I:2|R:1");
            due("held in the other store", x.thread(1, 0), "");
            x.flag(0, 0, 3, true);
            x.expunge(0);
            due("it left", x.thread(0, 0), "");
            due("its parent left", x.thread(0, 1), "1");
        });
        test(34, "if store is not 0 or 1, or there is no such LETTER", () -> {
            for (int store : NO_STORES) {
                refused("store " + store, x -> x.thread(store, 0), INDEX);
            }
            for (int letter : NO_LETTERS) {
                refused("letter " + letter, x -> x.thread(0, letter), INDEX);
            }
            refused(Sentences::full, "letter 30", x -> x.thread(0, 30), INDEX);
        });
    }

    private void ask() {
        test(35, "A CONDITION comes to the QUESTION.", () -> {
            Postroom x = new Postroom();
            x.ask(1, 2, 3, true);
            x.ask(1, 0, 7, false);
            due("one behind the other", x.question(1), "!2:3&0:7");
            due("another folder", x.question(0) + x.question(2) + x.question(3), "");
        });
        test(35, "Returns how many it has then.", () -> {
            Postroom x = new Postroom();
            for (int i = 1; i <= 4; i++) {
                due("ask", x.ask(3, 0, 0, false), i);
            }
            due("another folder", x.ask(0, 0, 0, false), 1);
        });
        test(35, "if folder is not 0 to 3", () -> {
            for (int folder : NO_FOLDERS) {
                refused("folder " + folder, x -> x.ask(folder, 0, 0, false), INDEX);
                refused("folder " + folder + ", and kind", x -> x.ask(folder, 8, 0, false), INDEX);
                refused("folder " + folder + ", and value", x -> x.ask(folder, 0, 1000, false), INDEX);
            }
        });
        test(35, "if kind is not 0 to 7, or value not 0 to 999", () -> {
            for (int kind : new int[] {LOWEST, -1, 8, HIGHEST}) {
                refused("kind " + kind, x -> x.ask(0, kind, 0, false), ARGUMENT);
                refused(LetterSentences::fourAsked, "kind " + kind + ", and 4", x -> x.ask(1, kind, 0, false), ARGUMENT);
            }
            for (int value : new int[] {LOWEST, -1, 1000, HIGHEST}) {
                refused("value " + value, x -> x.ask(0, 0, value, false), ARGUMENT);
                refused(LetterSentences::fourAsked, "value " + value + ", and 4", x -> x.ask(1, 0, value, false), ARGUMENT);
            }
            due("the lowest", new Postroom().ask(0, 0, 0, false), 1);
            due("the highest", new Postroom().ask(0, 7, 999, false), 1);
        });
        test(35, "if it has 4", () -> {
            refused(LetterSentences::fourAsked, "a fifth", x -> x.ask(1, 0, 0, false), STATE);
            due("another folder", fourAsked().ask(2, 0, 0, false), 1);
            Postroom x = fourAsked();
            x.unask(1);
            due("after unask", x.ask(1, 0, 0, false), 1);
        });
    }

    private static Postroom fourAsked() {
        Postroom x = holding("F:a@a|I:1");
        for (int i = 0; i < 4; i++) {
            x.ask(1, 2, i, false);
        }
        return x;
    }

    private void unask() {
        test(36, "All its CONDITIONS go.", () -> {
            Postroom x = fourAsked();
            x.ask(0, 5, 0, false);
            due("holds", x.holds(0, 1), "");
            x.unask(1);
            due("question", x.question(1), "");
            due("holds", x.holds(0, 1), "0");
            due("another folder", x.question(0), "5:0");
        });
        test(36, "Returns how many these were.", () -> {
            Postroom x = fourAsked();
            due("4", x.unask(1), 4);
            due("none", x.unask(1), 0);
        });
        test(36, "if folder is not 0 to 3", () -> {
            for (int folder : NO_FOLDERS) {
                refused("folder " + folder, x -> x.unask(folder), INDEX);
            }
            due("folder 0", busy().unask(0), 2);
            due("folder 3", busy().unask(3), 0);
        });
        test(37, "Returns CONDITION by CONDITION, with \"&\" between two: \"!\" if it has a NOT, kind, \":\", value (\"0:2&!5:1\").", () -> {
            Postroom x = new Postroom();
            due("none", x.question(0), "");
            x.ask(0, 0, 2, false);
            due("one", x.question(0), "0:2");
            x.ask(0, 5, 1, true);
            due("two", x.question(0), "0:2&!5:1");
            x.ask(0, 7, 999, true);
            x.ask(0, 6, 10, false);
            due("four", x.question(0), "0:2&!5:1&!7:999&6:10");
        });
        test(37, "if folder is not 0 to 3", () -> {
            for (int folder : NO_FOLDERS) {
                refused("folder " + folder, x -> x.question(folder), INDEX);
            }
            due("folder 0", busy().question(0), "!5:0&2:3");
            due("folder 3", busy().question(3), "");
        });
    }

    private void holds() {
        test(38, "Returns the LETTERS of the STORE that it holds, by rising numbers, with a blank between two.", () -> {
            Postroom x = holding("F:a@a|I:3||aaaaaaaaaaaaa", "F:a@a|I:2", "F:a@a|I:1||aaaaaaaaaaaaa");
            x.flag(0, 0, 3, true);
            x.expunge(0);
            type(x, "F:a@a|I:3||aaaaaaaaaaaaa").post(0);
            x.post(1);
            x.ask(2, 2, 2, false);
            due("by rising numbers", x.holds(0, 2), "0 2");
            due("the other store", x.holds(1, 2), "0");
            due("no question", x.holds(0, 0), "0 1 2");
            x.ask(2, 2, 3, false);
            due("none", x.holds(0, 2), "");
            due("an empty store", new Postroom().holds(0, 0), "");
            StringBuilder all = new StringBuilder("0");
            for (int i = 1; i < 30; i++) {
                all.append(' ').append(i);
            }
            due("30", full().holds(0, 0), all.toString());
        });
        test(38, "if store is not 0 or 1, or folder not 0 to 3", () -> {
            for (int store : NO_STORES) {
                refused("store " + store, x -> x.holds(store, 0), INDEX);
            }
            for (int folder : NO_FOLDERS) {
                refused("folder " + folder, x -> x.holds(0, folder), INDEX);
            }
            due("the lowest", busy().holds(0, 0), "1");
            due("the highest", busy().holds(1, 3), "1 2");
        });
    }
}

/** The sentences of the description, sections 1 to 3: signs and lines, addresses, letters as texts. */
final class TextSentences extends Sentences {
    private static final int ALL = Book.DESCRIPTION;
    private static final String WORDS = "abcdefgh0123456789-";
    private static final String HEAD = "F:a@a|I:1|";

    TextSentences(Book book) {
        super(book);
    }

    void testAll() {
        letAndRefused();
        asking();
        signs();
        numbers();
        fold();
        codeQ();
        codeB();
        comments();
        mailboxes();
        groups();
        heads();
        values();
        wrongHeads();
        wrongValues();
        wrongBodies();
        borders();
        parts();
        leaves();
        subjects();
    }

    private void letAndRefused() {
        test(ALL, "Whole numbers. NONE is -1.", () -> {
            due("depth", new Postroom().depth(1), -1);
            due("fault", typing("F:a@a|I:1").fault(), -1);
        });
        test(ALL, "X by X is by rising numbers.", () -> {
            Postroom x = holding("F:a@a|I:9", "F:a@a|I:3", "F:a@a|I:1");
            due("letters", x.holds(0, 0), "0 1 2");
        });
        test(ALL, "they tell one of -3 (a FAULT), -4 (it would be too much), -5 (another one has that name), -6 (a QUOTA), -9 (else), and change nothing", () -> {
            refused(() -> type(busy(), "hh"), "a fault", x -> x.post(0), -3);
            refused(() -> typing(times(300, "a")), "too much", Postroom::quote, -4);
            refused(() -> type(busy(), "F:a@a|I:9"), "a name", x -> x.post(0), -5);
            refused(() -> withQuota(sized(50, 101)), "a quota", x -> x.post(0), -6);
            refused(() -> typing("="), "else", x -> x.uncode(false), -9);
        });
        test(ALL, "(exceptions go ahead of that; of several the first one in this row)", () -> {
            refused(() -> holding(sized(1, 300)), "too much, and from", x -> x.answer(0, 16, 1, false), ARGUMENT);
            refused(() -> {
                Postroom x = full();
                x.quota(1, 100);
                return type(x, sized(30, 101));
            }, "a 31st, and above the quota", x -> x.post(1), STATE);
            refused(() -> type(withQuota("F:a@a|I:1"), "F:a@a|I:1|hh"), "a fault, and a name", x -> x.post(0), -3);
            refused(() -> withQuota("h" + sized(1, 101)), "a fault, and a quota", x -> x.post(0), -3);
            refused(() -> {
                Postroom x = withQuota("F:a@a|I:1");
                x.post(1);
                return type(x, sized(1, 101));
            }, "a name, and a quota", x -> x.post(0), -5);
        });
    }

    /** A room whose store 0 has a quota of 100; this text is typed. */
    private static Postroom withQuota(String text) {
        Postroom x = typing(text);
        x.quota(0, 100);
        return x;
    }

    private void asked(String what, Call call) {
        Postroom x = busy();
        Object first = call.on(x);
        due(what + " once more", call.on(x), first);
        due("the room after " + what, Probe.of(x), Probe.of(busy()));
    }

    private void asking() {
        test(ALL, "What one asks for changes nothing.", () -> {
            asked("typed", Postroom::typed);
            asked("fault", Postroom::fault);
            asked("depth", x -> x.depth(0));
            asked("addresses", Postroom::addresses);
            asked("address", x -> x.address(0, false));
            asked("box", x -> x.box(1, 3));
            asked("since", x -> x.since(1, 0));
            asked("search", x -> x.search(0));
            asked("question", x -> x.question(0));
            asked("reached", x -> x.reached(1));
            asked("isSound", Postroom::isSound);
            asked("a line that is not there", x -> x.depth(9));
            asked("an address that is not there", x -> x.address(9, true));
            asked("a leaf that is not there", x -> x.leaf(0, 9, 0));
            asked("one that is not held", x -> x.held(0, 2, 0));
            asked("the thread of one that is not held", x -> x.thread(0, 2));
            asked("digest", Postroom::digest);
            for (int i = 0; i <= 10; i++) {
                int what = i;
                asked("ofStore", x -> x.ofStore(1, what));
                asked("house", x -> x.house(what % 9));
                asked("ofLetter", x -> x.ofLetter(2, what % 10));
                asked("text", x -> x.text(2, what % 6));
                asked("leaf", x -> x.leaf(1, what / 5, what % 5));
                asked("held", x -> x.held(1, 1 + what / 7, what % 7));
                asked("ofOut", x -> x.ofOut(0, what % 4));
                asked("thread", x -> x.thread(what % 2, what % 3));
                asked("holds", x -> x.holds(what % 2, what % 4));
            }
        });
    }

    private void signs() {
        test(ALL, "SIGNS have codes: 0 to 7 \"a\" to \"h\", 8 a blank, 9 to 15 \"F\", \"T\", \"S\", \"I\", \"R\", \"K\", \"X\", 16 \":\", 17 \";\", 18 \",\", 19 \"<\", 20 \">\", 21 \"@\", 22 \"(\", 23 \")\", 24 \"=\", 25 \"?\", 26 \"_\", 27 \"-\", 28 to 37 \"0\" to \"9\", 38 \"|\".", () -> {
            for (int code = 0; code <= 38; code++) {
                Postroom x = new Postroom();
                x.say(code, NONE, NONE, NONE, NONE, NONE);
                due("code " + code, x.typed(), "" + SIGNS.charAt(code));
            }
        });
        test(ALL, "The OCTET of a SIGN is its number as a char (\"a\" is 97).", () -> {
            for (int code = 0; code < 38; code++) {
                Postroom x = holding(HEAD + "|a" + SIGNS.charAt(code));
                due("octet of " + SIGNS.charAt(code), x.leaf(0, 0, 3), (int) SIGNS.charAt(code));
            }
            due("octet of a", holding(HEAD + "|a").leaf(0, 0, 2), 97);
        });
        test(ALL, "LINES of a text are what lies between its \"|\" (a text without \"|\" is one LINE, also an empty text).", () -> {
            due("an empty text", typing("").unfold(), 1);
            due("without |", typing("a b").unfold(), 1);
            due("one |", typing("|").unfold(), 2);
            due("three lines", typing("a||b").unfold(), 3);
            due("301 lines", typing(times(300, "|")).unfold(), 301);
        });
        test(ALL, "TYPED is a text of at most 300 SIGNS (empty at first).", () -> {
            due("at first", new Postroom().typed(), "");
            due("300", typing(times(300, "a")).typed(), times(300, "a"));
            refused(() -> typing(times(300, "a")), "301", x -> x.say(0, NONE, NONE, NONE, NONE, NONE), STATE);
        });
        test(ALL, "TRIMMED: without blanks at both ends.", () -> {
            Postroom x = holding("F:  a@a  |I: 1|S:   a  b   |X:   ");
            due("a subject", x.text(0, 2), "a  b");
            due("blanks", x.text(0, 4), "");
        });
    }

    private void number(String number, boolean isOne) {
        due("a name " + number, typing("F:a@a|I:" + number).fault(), isOne ? -1 : 1);
        due("a number " + number + " in R", typing("F:a@a|I:1|R:1 " + number).fault(), isOne || number.isEmpty() ? -1 : 2);
        due("a border " + number, typing("F:a@a|I:1|K:d" + number + "||--" + number + "|--" + number + "-").fault(),
                isOne ? -1 : 2);
    }

    private void numbers() {
        test(ALL, "A WORD: one or more of \"a\" to \"h\", digits, \"-\".", () -> {
            for (int code = 0; code <= 38; code++) {
                char sign = SIGNS.charAt(code);
                int due = WORDS.indexOf(sign) >= 0 ? 1 : -3;
                due(sign + "@a", typing(sign + "@a").addresses(), due);
                due("a@" + sign, typing("a@" + sign).addresses(), due);
                due("a" + sign + "a@a", typing("a" + sign + "a@a").addresses(), due);
                due("a@a" + sign + "a", typing("a@a" + sign + "a").addresses(), due);
            }
            due("none", typing("@a").addresses(), -3);
            due("none", typing("a@").addresses(), -3);
            due("none", typing("@").addresses(), -3);
        });
        test(ALL, "A NUMBER: 1 to 3 digits, without a needless 0 ahead.", () -> {
            for (String good : new String[] {"0", "1", "9", "10", "19", "90", "99", "100", "909", "999"}) {
                number(good, true);
            }
            for (String bad : new String[] {"", "00", "01", "000", "001", "010", "0000", "1000", "a", "1a", "a1", "-1", "1-",
                "1:", "1;", "_1"}) {
                number(bad, false);
            }
        });
    }

    private void folded(String text, String want) {
        Postroom x = typing(text);
        due("lines of " + text, x.fold(), want.split("\\|", -1).length);
        due(text, x.typed(), want);
    }

    private void fold() {
        test(ALL, "as long as what is left of it has more than 20 SIGNS", () -> {
            folded(times(18, "a") + " b", times(18, "a") + " b");
            folded(times(18, "a") + " bb", times(18, "a") + "| bb");
            folded(times(18, "a") + " " + times(19, "b"), times(18, "a") + "| " + times(19, "b"));
            folded(times(15, "a ") + "b", times(10, "a ").trim() + "|" + times(5, " a") + " b");
        });
        test(ALL, "it is broken ahead of the last blank at the places 1 to 20 of it (the first SIGN is at place 0)", () -> {
            folded("a" + " " + times(19, "b"), "a| " + times(19, "b"));
            folded(times(20, "a") + " ", times(20, "a") + "| ");
            folded("a b c" + times(30, "d"), "a b| c" + times(30, "d"));
            folded(times(19, "a") + "   ", times(19, "a") + " |  ");
            folded(" " + times(20, "a"), " " + times(20, "a"));
            folded(times(41, " "), times(20, " ") + "|" + times(20, " ") + "| ");
        });
        test(ALL, "or, without one, ahead of the first blank behind those", () -> {
            folded(times(21, "a") + " b c", times(21, "a") + "| b c");
            folded(" " + times(20, "a") + " b c", " " + times(20, "a") + "| b c");
            folded(times(30, "a") + " " + times(30, "b") + " c", times(30, "a") + "| " + times(30, "b") + "| c");
            folded(times(21, "a") + " ", times(21, "a") + "| ");
        });
        test(ALL, "without that it is not broken", () -> {
            folded(times(300, "a"), times(300, "a"));
            folded("a " + times(30, "b"), "a| " + times(30, "b"));
        });
        test(ALL, "each piece is a LINE then.", () ->
            folded("a " + times(20, "b") + "||c " + times(20, "d"), "a| " + times(20, "b") + "||c| " + times(20, "d")));
        test(ALL, "To UNFOLD a text: each \"|\" with a blank right behind it goes.", () -> {
            Postroom x = typing("| a|| b|c | |d");
            due("lines", x.unfold(), 4);
            due("typed", x.typed(), " a| b|c  |d");
            Postroom y = typing("a|");
            y.unfold();
            due("without a sign behind it", y.typed(), "a|");
        });
    }

    private void codeQ() {
        test(ALL, "CODE q of a LINE: letters \"a\" to \"h\", digits and blanks stand for themselves, each other SIGN is \"=\" and two of \"0123456789abcdef\" (its OCTET, base 16).", () -> {
            for (int code = 0; code < 38; code++) {
                char sign = SIGNS.charAt(code);
                Postroom x = typing("a" + sign);
                x.code(false);
                due("q of " + sign, x.typed(), "abcdefgh 0123456789".indexOf(sign) >= 0 ? "a" + sign
                        : String.format("a=%02x", (int) sign));
            }
        });
        test(ALL, "A LINE can be read by q, if behind each \"=\" in it there are two of these; other SIGNS stand for themselves.", () -> {
            for (int code = 0; code < 38; code++) {
                char sign = SIGNS.charAt(code);
                if (sign != '=') {
                    Postroom x = typing("a" + sign);
                    due("q of " + sign, x.uncode(false), 2);
                    due("typed", x.typed(), "a" + sign);
                }
                boolean isDigit = "abcdef0123456789".indexOf(sign) >= 0;
                due("a line =4" + sign, typing(HEAD + "K:c||=4" + sign).fault(), isDigit ? -1 : 4);
                due("a line =" + sign + "4", typing(HEAD + "K:c||=" + sign + "4").fault(), isDigit ? -1 : 4);
            }
            due("none behind it", typing(HEAD + "K:c||=").fault(), 4);
            due("one behind it", typing(HEAD + "K:c||=4").fault(), 4);
            due("one behind the second one", typing(HEAD + "K:c||=40=4").fault(), 4);
            due("an empty line", typing(HEAD + "K:c||").fault(), NONE);
        });
    }

    private void codeB() {
        test(ALL, "CODE b of a LINE: each SIGN is two of \"abcdefgh01234567\" (the place of the first one times 16, and the place of the second one, are its OCTET).", () -> {
            String digits = "abcdefgh01234567";
            for (int code = 0; code < 38; code++) {
                char sign = SIGNS.charAt(code);
                Postroom x = typing("a" + sign);
                x.code(true);
                due("b of " + sign, x.typed(), "gb" + digits.charAt(sign / 16) + digits.charAt(sign % 16));
            }
        });
        test(ALL, "A LINE can be read by b, if it is an even number of these.", () -> {
            for (int code = 0; code < 38; code++) {
                char sign = SIGNS.charAt(code);
                boolean isDigit = "abcdefgh01234567".indexOf(sign) >= 0;
                due("a line a" + sign, typing(HEAD + "K:b||a" + sign).fault(), isDigit ? -1 : 4);
                due("a line " + sign + "a", typing(HEAD + "K:b||" + sign + "a").fault(), isDigit ? -1 : 4);
            }
            for (int i = 0; i <= 7; i++) {
                due(i + " of these", typing(HEAD + "K:b||" + times(i, "7")).fault(), i % 2 == 0 ? -1 : 4);
            }
        });
    }

    private void list(String text, int want) {
        due("addresses of " + text, typing(text).addresses(), want);
    }

    private void comments() {
        test(ALL, "COMMENTS of a text: from a \"(\" to its \")\" (with others in it); an ADDRESS LIST has each \"(\" and \")\" in one.", () -> {
            list("(a@b)", 0);
            list("a@b(,c@d)", 1);
            list("(,)a(())@(()(()))b(:)", 1);
            list("(a@b", -3);
            list("a@b)", -3);
            list("((a)a@b", -3);
            list("(a))a@b", -3);
            list(")a@b(", -3);
            list("(", -3);
            list(")", -3);
            list(times(150, "(") + times(150, ")"), 0);
            list(times(150, "(") + times(149, ")"), -3);
        });
        test(ALL, "Without its COMMENTS it is empty or blanks, or ITEMS with \",\" between.", () -> {
            list("", 0);
            list(times(300, " "), 0);
            list(" (a) ", 0);
            list(",", -3);
            list("a@b,", -3);
            list(",a@b", -3);
            list("a@b,,a@b", -3);
            list("a@b, ,a@b", -3);
            list("a@b,(c),a@b", -3);
            list("a@b a@b", -3);
            list("a@b,c@d,:;,e@f", 3);
        });
        test(ALL, "An ITEM, TRIMMED, is a MAILBOX or a GROUP.", () -> {
            list(" a@b ,  c@d  , :; , <a@b> ", 3);
            list("a", -3);
            list("a@b;", -3);
            list("a b", -3);
            list(" | ", -3);
            list("a@b |", -3);
        });
    }

    private void mailboxes() {
        test(ALL, "A MAILBOX, TRIMMED: an ADDRESS, or a PHRASE, \"<\", an ADDRESS, \">\".", () -> {
            list("a<a@b>", 1);
            list(" a <a@b> ", 1);
            list("<a@b>", 1);
            list("<a@b>a", -3);
            list("<a@b> a", -3);
            list("< a@b>", -3);
            list("<a@b >", -3);
            list("<a@b", -3);
            list("a@b>", -3);
            list("<>", -3);
            list("<", -3);
            list(">", -3);
            list("<<a@b>>", -3);
            list("<a@b>>", -3);
            list("a>b@c>", -3);
            list(">a@b>", -3);
            list("@a@b>", -3);
            list("a@b@c>", -3);
            list("<a@b><a@b>", -3);
            list("<a>", -3);
        });
        test(ALL, "An ADDRESS: a WORD, \"@\", a WORD (the HOST).", () -> {
            list("a@b", 1);
            list("a", -3);
            list("a@b@c", -3);
            list("a@@b", -3);
            list("a @b", -3);
            list("a@ b", -3);
            due("host", typing("ab@cd-9").address(0, true), "cd-9");
        });
        test(ALL, "A PHRASE: any SIGNS but \":\", \";\", \",\", \"<\", \">\", \"@\" (none, too).", () -> {
            for (int code = 0; code <= 38; code++) {
                char sign = SIGNS.charAt(code);
                int due = ":;,<>@()".indexOf(sign) >= 0 ? -3 : 1;
                list(sign + "<a@b>", due);
                list("a" + sign + "a <a@b>", due);
                list(sign + ":a@b;", due);
                list("a" + sign + "a :a@b;", due);
            }
            list("<a@b>", 1);
            list(":a@b;", 1);
        });
    }

    private void groups() {
        test(ALL, "A GROUP: a PHRASE, \":\", then nothing but blanks, or MAILBOXES with \",\" between, and \";\".", () -> {
            list(":;", 0);
            list("a: ;", 0);
            list(":(a);", 0);
            list("a:b@c;", 1);
            list("a: b@c , <d@e> ;", 2);
            list("a:,;", -3);
            list("a:b@c,;", -3);
            list("a:b@c, ;", -3);
            list("a:,b@c;", -3);
            list("a: ,b@c;", -3);
            list("a:b@c,,d@e;", -3);
            list("a:b@c", -3);
            list("a:", -3);
            list(":", -3);
            list(";", -3);
            list("a:b;", -3);
            list("a:b@c;;", -3);
            list("a:b@c;d", -3);
            list("a:b@c; d@e", -3);
            list("a:b:c@d;;", -3);
            list("a:b:c@d;", -3);
            list("a:;b:;", -3);
            list("a:;,b:;", 0);
            list("a:|;", -3);
        });
        test(ALL, "The ADDRESSES of a list are those of its MAILBOXES, in their order, also of those in GROUPS.", () -> {
            Postroom x = typing("c@a,b:h@a, <g@a>;,(e@a)d<a@a>, :b@a;");
            String[] want = {"c@a", "h@a", "g@a", "a@a", "b@a", ""};
            for (int i = 0; i < want.length; i++) {
                due("address " + i, x.address(i, false), want[i]);
            }
        });
        test(ALL, "The ADDRESS n (0 to 15) is the letter n MOD 4 of \"abcd\", \"@\", the letter n / 4 of it (rounded down): 6 is \"c@b\".", () -> {
            for (int n = 0; n < 16; n++) {
                Postroom x = new Postroom();
                x.build(n, 1, 0, NONE, 15 - n, false);
                x.post(0);
                due("address " + n, x.text(0, 1), "abcd".charAt(n % 4) + "@" + "abcd".charAt(n / 4));
                due("address " + (15 - n), x.text(0, 5), "dcba".charAt(n % 4) + "@" + "dcba".charAt(n / 4));
                x.answer(0, n, 2, true);
                due("address " + n, x.typed().substring(2, 5), x.text(0, 1));
            }
            Postroom x = new Postroom();
            x.build(6, 1, 0, NONE, 0, false);
            due("6", x.typed().substring(2, 5), "c@b");
        });
    }

    private void fault(String text, int want) {
        due("fault of " + text, typing(text).fault(), want);
    }

    private void heads() {
        test(ALL, "The HEAD LINES are those ahead of the first empty LINE (all, without one)", () -> {
            due("all", holding(HEAD + "S:a|X:b").ofLetter(0, 2), 4);
            due("to the first empty one", holding(HEAD + "|X:b||X:c").ofLetter(0, 2), 2);
            due("a blank line is not empty", holding(HEAD + " |X:b").ofLetter(0, 2), 3);
            fault("|" + HEAD, 0);
        });
        test(ALL, "the BODY is the LINES behind that one.", () -> {
            due("none, without an empty one", holding(HEAD + "S:a").ofLetter(0, 7), 0);
            due("none behind it", holding(HEAD).ofLetter(0, 7), 0);
            due("one", holding(HEAD + "|").ofLetter(0, 7), 1);
            due("three", holding(HEAD + "|a||b").ofLetter(0, 7), 3);
        });
        test(ALL, "A HEAD is a HEAD LINE that begins with one of \"F\", \"T\", \"S\", \"I\", \"R\", \"K\", \"X\" (its NAME) and \":\"", () -> {
            for (int code = 0; code <= 38; code++) {
                char sign = SIGNS.charAt(code);
                // a second F or I, and a K of nothing, are WRONG; a blank makes it a line of the head ahead of it
                int due = "TSRX|".indexOf(sign) >= 0 ? -1 : sign == ' ' ? 1 : 2;
                fault(HEAD + sign + ":", due);
                fault(HEAD + "X" + sign, sign == ':' ? -1 : 2);
                fault(HEAD + sign + "X:", sign == '|' ? -1 : sign == ' ' ? 1 : 2);
            }
            fault(HEAD + "K:a", -1);
            fault(HEAD + "X", 2);
            due("heads", holding(HEAD + "K:a|T:|S:|R:|X:|X:").ofLetter(0, 2), 8);
        });
        test(ALL, "with all HEAD LINES that follow it and begin with a blank", () -> {
            due("two lines", holding(HEAD + "S:a| b| c|X:d").text(0, 2), "a b c");
            due("heads", holding(HEAD + "S:a| b| c|X:d").ofLetter(0, 2), 4);
            due("to the empty line", holding(HEAD + "S:a| b|| c").text(0, 2), "a b");
            due("not that of another head", holding(HEAD + "S:a|X:d| b").text(0, 2), "a");
            due("a line with NAME and : behind a blank", holding(HEAD + "S:a| X:b").text(0, 2), "a X:b");
            fault(" a|" + HEAD, 0);
            fault(" |" + HEAD, 0);
        });
    }

    private void values() {
        test(ALL, "its VALUE is, TRIMMED, all behind \":\" in the first, and the further ones, one behind the other.", () -> {
            due("one line", holding(HEAD + "S:  a  b ").text(0, 2), "a  b");
            due("more", holding(HEAD + "S: a  |   b | c ").text(0, 2), "a     b  c");
            due("none in the first", holding(HEAD + "S:|  a").text(0, 2), "a");
            due("blanks", holding(HEAD + "S: |  | ").text(0, 2), "");
            due("with : in it", holding(HEAD + "S::b:c").text(0, 2), ":b:c");
            fault("F:|  a@|b|I:1", 0);
            fault("F:|  a@a| |I:|1", 3);
            fault("F:|  a@a| |I:| 1", -1);
            fault("F:a@a|I:1| 1", 1);
        });
        test(ALL, "KIND is the VALUE of K (\"a\" without one): \"a\" (its LINES are as they are), \"c\" (in CODE q), \"b\" (in CODE b), or \"d\" and a NUMBER (its BORDER; it has PARTS).", () -> {
            due("without one", holding(HEAD + "|=3d").leaf(0, 0, 0), 3);
            due("a", holding(HEAD + "K: a ||=3d").leaf(0, 0, 0), 3);
            due("c", holding(HEAD + "K:| c||=3d").leaf(0, 0, 0), 1);
            due("b", holding(HEAD + "K:b||ab").leaf(0, 0, 0), 1);
            due("d and a number", holding(HEAD + "K: d1 ||--1|--1-").ofLetter(0, 9), 1);
            due("d", holding(HEAD + "K:d907||--907||a|--907-").leaf(0, 0, 0), 1);
        });
    }

    private void wrongHeads() {
        test(ALL, "A LINE is WRONG: a HEAD LINE that is in no HEAD", () -> {
            fault("h|" + HEAD, 0);
            fault("F:a@a|h|I:1", 1);
            fault(HEAD + "h", 2);
            fault(HEAD + "f:", 2);
            fault(HEAD + ":", 2);
            fault(HEAD + "|h", -1);
            fault(HEAD + "h| a", 2);
        });
        test(ALL, "the first LINE of a HEAD, if a HEAD with its NAME came ahead of it (but X)", () -> {
            fault(HEAD + "F:a@a", 2);
            fault(HEAD + "I:1", 2);
            fault(HEAD + "T:|X:| |T:", 5);
            fault(HEAD + "S:|S:| ", 3);
            fault(HEAD + "R:|R:", 3);
            fault(HEAD + "K:a|K:a", 3);
            fault(HEAD + "X:|X:|X:a", -1);
            fault(HEAD + "|F:a@a|I:1", -1);
            fault("F:a@a|F:a@a", 1);
        });
        test(ALL, "the one behind the HEAD LINES, if F or I is missing", () -> {
            fault("", 0);
            fault("|a", 0);
            fault("X:a", 1);
            fault("X:a| b", 2);
            fault("F:a@a", 1);
            fault("F:a@a|", 1);
            fault("I:1|S:a||F:a@a", 2);
            fault("F:a@a||I:1", 1);
            fault("F:a@a|S:b|T:b@c", 3);
            fault("K:b||a", 1);
            fault("K:d1||a", 1);
        });
    }

    private void wrongValues() {
        test(ALL, "or F is not a list of one MAILBOX that is in no GROUP", () -> {
            fault("F:|I:1", 0);
            fault("F:(a)|I:1", 0);
            fault("F:a@b,c@d|I:1", 0);
            fault("F:a:b@c;|I:1", 0);
            fault("F::;|I:1", 0);
            fault("F:a|I:1", 0);
            fault("F:a@b,|I:1", 0);
            fault("F: (a) b <c@d> |I:1", -1);
            fault("I:1|F:a@b (|X:)", 1);
        });
        test(ALL, "T is not an ADDRESS LIST", () -> {
            fault(HEAD + "T:", -1);
            fault(HEAD + "T:()", -1);
            fault(HEAD + "T:a@b,c:;,:d@e,<f@g>;", -1);
            fault(HEAD + "T:a@b,| c@d", -1);
            fault(HEAD + "T:a@b| c@d", 2);
            fault(HEAD + "T:a@b,", 2);
            fault(HEAD + "T:(", 2);
        });
        test(ALL, "I is not a NUMBER", () -> {
            fault("F:a@a|I:", 1);
            fault("F:a@a|I:1 2", 1);
            fault("F:a@a|I:1|S:b", -1);
            fault("F:a@a|I:1000", 1);
            fault("F:a@a|I: 999 ", -1);
            fault("F:a@a|I:0", -1);
        });
        test(ALL, "R is not NUMBERS with blanks between (or nothing)", () -> {
            fault(HEAD + "R:", -1);
            fault(HEAD + "R:   ", -1);
            fault(HEAD + "R:0", -1);
            fault(HEAD + "R: 1   999| 1 ", -1);
            fault(HEAD + "R:1,2", 2);
            fault(HEAD + "R:1 a", 2);
            fault(HEAD + "R:00 1", 2);
            fault(HEAD + "R:1 1000", 2);
            fault(HEAD + "R:-", 2);
        });
        test(ALL, "or K is not one of these KINDS", () -> {
            for (int code = 0; code < 38; code++) {
                char sign = SIGNS.charAt(code);
                fault(HEAD + "K:" + sign, sign == 'a' || sign == 'b' || sign == 'c' ? -1 : 2);
                fault(HEAD + "K:" + sign + "1||--1|--1-", sign == 'd' ? -1 : 2);
            }
            fault(HEAD + "K:", 2);
            fault(HEAD + "K:aa", 2);
            fault(HEAD + "K:d 1||--1|--1-", 2);
            fault(HEAD + "K:d01||--01|--01-", 2);
            fault(HEAD + "K:d1000||--1000|--1000-", 2);
            fault(HEAD + "K:d1a||--1|--1-", 2);
        });
    }

    private void wrongBodies() {
        test(ALL, "with the KIND c or b a LINE of the BODY that can not be read by q, or b.", () -> {
            fault(HEAD + "K:c", -1);
            fault(HEAD + "K:c|", -1);
            fault(HEAD + "K:c||", -1);
            fault(HEAD + "K:c||a|=3d|=ff|=|=", 7);
            fault(HEAD + "K:b", -1);
            fault(HEAD + "K:b|", -1);
            fault(HEAD + "K:b||", -1);
            fault(HEAD + "K:b||ab||77|a|a", 7);
            fault(HEAD + "K:a||=", -1);
            fault(HEAD + "|=", -1);
        });
        test(ALL, "FAULT of a text: the number of its first WRONG LINE, counted from 0 (NONE: it is a LETTER).", () -> {
            fault("h|h|h", 0);
            fault(HEAD + "h|K:c||=", 2);
            fault("F:|I:", 0);
            fault("F:a@a|I:|I:", 1);
            fault("F:a@a|K:c||=", 2);
            fault(HEAD + "K:c||=|=", 4);
            fault("F:a@a|I:1", -1);
            Postroom x = typing(HEAD + "K:c||=3");
            due("a fault", x.post(0), -3);
            x.say(33, NONE, NONE, NONE, NONE, NONE);
            due("a letter", x.post(0), 0);
        });
    }

    private void borders() {
        String head = HEAD + "K:d5|";
        test(ALL, "With d: the BODY has to have a LINE \"--\" and BORDER, and behind that a LINE \"--\", BORDER and \"-\"", () -> {
            fault(head + "|--5|--5-", -1);
            fault(head + "|--5||--5-", -1);
            fault(head + "|--5", 5);
            fault(head + "|--5-", 5);
            fault(head + "|--5-|--5", 6);
            fault(head + "|", 5);
            fault(head, 4);
            // 300 signs, of which the last ones could be the first ones of a border
            for (String last : new String[] {"", "-", "--", "--5", "---"}) {
                fault(head + times(300 - head.length() - 1 - last.length(), "h").replaceFirst("^h", "|") + "|" + last, 6);
            }
            fault(HEAD + "K:d5", 3);
            for (String bad : new String[] {" --5", "--5 ", "--05", "-5", "--", "---", "a-5", "-a5", "--6", "--55", "--5a", "--5--"}) {
                fault(head + "|" + bad + "|--5-", 6);
            }
            for (String bad : new String[] {" --5-", "--5- ", "--05-", "-5-", "---", "----", "--6-", "--55-", "--5", "--5a", "--5--"}) {
                fault(head + "|--5||" + bad, 7);
            }
            fault(HEAD + "K:d0||--0|--0-", -1);
            fault(HEAD + "K:d999||--999|--999-", -1);
        });
        test(ALL, "otherwise the LINE behind the last one (of the LETTER, or of that PART) is WRONG.", () -> {
            fault(head + "|a|b|c", 7);
            fault(head + "|--5|K:d6||--6|--5|--5-", 8);
            fault(head + "|--5|K:d6|--5-", 6);
            fault(head + "|--5|K:d6||--5|--5-", 7);
            fault(head + "|--5|K:d5||--5|--5-", 7);
            fault(head + "|--5|K:d6||--6|K:d7||--6-|--5-", 10);
        });
    }

    private void parts() {
        String head = HEAD + "K:d5|";
        test(ALL, "What lies between the first \"--\" BORDER and the first \"--\" BORDER \"-\" behind it, parted by each \"--\" BORDER, are the PARTS (one may be without LINES)", () -> {
            due("one without lines", holding(head + "|--5|--5-").ofLetter(0, 3), 1);
            due("two without lines", holding(head + "|--5|--5|--5-").ofLetter(0, 3), 2);
            due("one", holding(head + "|--5||a|--5-").ofLetter(0, 3), 1);
            due("the first --5", holding(head + "|--5-|--5||a|--5-").ofLetter(0, 3), 1);
            due("the first --5- behind it", holding(head + "|--5||a|--5-|--5||b|--5-").ofLetter(0, 3), 1);
            due("three", holding(head + "|--5||a|--5|--5||b|--5-").ofLetter(0, 3), 3);
            due("lines", holding(head + "|--5||a||b|--5-").leaf(0, 0, 0), 4);
        });
        test(ALL, "each read likewise (but nothing is missing in it)", () -> {
            fault(head + "|--5|S:a||h|--5-", -1);
            fault(head + "|--5|h|--5-", 5);
            fault(head + "|--5|S:a|S:a|--5-", 6);
            fault(head + "|--5|S:a|--5|S:a|--5-", -1);
            fault(head + "|--5|F:|--5-", 5);
            fault(head + "|--5|F:a@a|I:1|T:|--5-", -1);
            fault(head + "|--5||a|--5|I:01|--5-", 8);
            fault(head + "|--5|K:c||a|=|--5-", 8);
            fault(head + "|--5|K:c||a|--5|K:b||a|--5-", 11);
            fault(head + "|--5|K:e|--5-", 5);
            fault(head + "|--5| a|--5-", 5);
        });
        test(ALL, "all else of the BODY is no matter.", () -> {
            fault(head + "|h|K:e|--5|--5-", -1);
            fault(head + "|--5|--5-|h|=|--5|h|--5-", -1);
            due("leaves", holding(head + "|h|--5|--5-|--5|--5-").ofLetter(0, 3), 1);
        });
        test(ALL, "A K with d in a PART of a PART of a PART is WRONG (its first LINE).", () -> {
            String third = head + "|--5|K:d6||--6|K:d7||--7|";
            String end = "|--7-|--6-|--5-";
            fault(third + "K:c||=3d" + end, -1);
            fault(third + "K:d8||--8|--8-" + end, 11);
            fault(third + "X:a|K:| d8||--8|--8-" + end, 12);
            fault(head + "|--5|K:d6||--6|K:d7||--7|--7-|--6-|--5-", -1);
            fault(third + "S:a|" + "|--8|--8-" + end, -1);
        });
    }

    private void leaves() {
        test(ALL, "LEAVES: a LETTER or PART that is not of KIND d is one; otherwise they are those of its PARTS.", () -> {
            due("a letter", holding("F:a@a|I:1").ofLetter(0, 3), 1);
            Postroom x = holding(HEAD + "K:d1||--1||a|--1|K:d2||--2||b|--2|K:c||c|--2-|--1||d|--1-");
            due("four", x.ofLetter(0, 3), 4);
            String order = "";
            for (int i = 0; i < 4; i++) {
                order += (char) x.leaf(0, i, 2);
                due("in so many parts", x.leaf(0, i, 4), i % 3 == 0 ? 1 : 2);
            }
            due("in their order", order, "abcd");
        });
        test(ALL, "OCTETS of a LEAF: those of the LINES of its BODY, read by q or b if its KIND is c or b, with a 124 between two.", () -> {
            due("none", holding(HEAD).leaf(0, 0, 0), 0);
            due("of an empty line", holding(HEAD + "|").leaf(0, 0, 0), 0);
            due("of two empty lines", holding(HEAD + "||").leaf(0, 0, 1), 124);
            due("as they are", holding(HEAD + "|=3d|a").leaf(0, 0, 1), 61 + 2 * 51 + 3 * 100 + 4 * 124 + 5 * 97);
            due("by q", holding(HEAD + "K:c||=00=ff|?").leaf(0, 0, 1), 2 * 255 + 3 * 124 + 4 * 63);
            due("by q, the first one", holding(HEAD + "K:c||=00=ff|?").leaf(0, 0, 2), 0);
            due("by b", holding(HEAD + "K:b||aa77|h4").leaf(0, 0, 1), 2 * 255 + 3 * 124 + 4 * 124);
            due("by b, how many", holding(HEAD + "K:b||aa77|h4").leaf(0, 0, 0), 4);
            due("of a part", holding(HEAD + "K:d1||--1|K:b||77|--1-").leaf(0, 0, 3), 255);
            due("of a part without k", holding(HEAD + "K:d1||--1|K:b||77|--1||77|--1-").leaf(0, 1, 0), 2);
        });
    }

    private void subjects() {
        test(ALL, "SUBJECT: the VALUE of S (\"\" without one).", () -> {
            due("without one", holding(HEAD).text(0, 2), "");
            due("an empty one", holding(HEAD + "S:").text(0, 2), "");
            due("one", holding(HEAD + "S: a:(b) ").text(0, 2), "a:(b)");
        });
        test(ALL, "BASE: it without each \"a:\" and \"f:\" with which it begins, TRIMMED each time.", () -> {
            String[][] bases = {{"", ""}, {"b", "b"}, {"a:", ""}, {"a:f:", ""}, {"a:b", "b"}, {"f:a:a:f:b", "b"},
                {"a:  f: b  c", "b  c"}, {"a :b", "a :b"}, {"b:a:", "b:a:"}, {"a:b a:", "b a:"}, {"aa:b", "aa:b"},
                {":b", ":b"}, {"a", "a"}, {"f", "f"}, {"a:a", "a"}, {"a: :", ":"}, {"ff:", "ff:"}};
            for (String[] base : bases) {
                due("base of " + base[0], holding(HEAD + "S:" + base[0]).text(0, 3), base[1]);
            }
        });
        test(ALL, "A LETTER ANSWERS, if its SUBJECT begins with \"a:\".", () -> {
            String[] answers = {"a:", "a:b", " a: f:"};
            String[] others = {"", "a", "f:a:", "a :b", "b a:", "aa:", ":a:"};
            for (String subject : answers) {
                due(subject, holding(HEAD + "S:" + subject).ofLetter(0, 8), 1);
            }
            for (String subject : others) {
                due(subject, holding(HEAD + "S:" + subject).ofLetter(0, 8), 0);
            }
            due("no subject", holding(HEAD).ofLetter(0, 8), 0);
        });
    }
}

import java.util.function.Supplier;

/** Each promise of ../shared/DOC.md with answers that were worked out by hand: method pN tests promise N. */
public final class PromisesTest {
    private static final String SIGNS = "abcdefgh FTSIRKX:;,<>@()=?_-0123456789|";
    private static final Class<?> STATE = IllegalStateException.class;
    private static final Class<?> ARGUMENT = IllegalArgumentException.class;
    private static final Class<?> INDEX = IndexOutOfBoundsException.class;
    private static int wrong;
    private static int asked;

    public static void main(String[] args) {
        p1();
        p2();
        p3();
        p4();
        p5();
        p6();
        p7();
        p8();
        p9();
        p10();
        p11();
        p12();
        p13();
        p13InParts();
        p14();
        p15();
        p16();
        p17();
        p18();
        p19();
        p20();
        p21();
        p22();
        p23();
        p24();
        p25();
        p26();
        p27();
        p28();
        p29();
        p30();
        p31();
        p32();
        p33();
        p34();
        p35();
        p36();
        p37();
        p38();
        p39();
        p40();
        p41();
        p42();
        p43();
        p44();
        p45();
        p46();
        p47();
        p48();
        System.out.println("PromisesTest: " + asked + " answers, " + wrong + " wrong");
        if (wrong > 0) {
            System.exit(1);
        }
    }

    private static void due(String what, Object got, Object want) {
        asked++;
        if (!want.equals(got)) {
            wrong++;
            System.out.println(what + " answered " + got + ", due is " + want);
        }
    }

    private static void fails(String what, Class<?> want, Supplier<Object> call) {
        Object got;
        try {
            got = call.get();
        } catch (RuntimeException e) {
            got = e.getClass();
        }
        due(what, got, want);
    }

    /** Types a text in the place of what is typed. */
    private static Postroom type(Postroom x, String text) {
        x.say(40, -1, -1, -1, -1, -1);
        for (int i = 0; i < text.length(); i++) {
            x.say(SIGNS.indexOf(text.charAt(i)), -1, -1, -1, -1, -1);
        }
        return x;
    }

    private static Postroom typing(String text) {
        return type(new Postroom(), text);
    }

    /** Posts a text into a store. */
    private static int post(Postroom x, int store, String text) {
        return type(x, text).post(store);
    }

    private static String times(int count, String text) {
        return text.repeat(count);
    }

    private static void p1() {
        Postroom x = new Postroom();
        for (int what = 0; what <= 8; what++) {
            due("house(" + what + ") at first", x.house(what), 0);
        }
        for (int store = 0; store < 2; store++) {
            for (int what = 0; what <= 10; what++) {
                due("ofStore(" + store + ", " + what + ") at first", x.ofStore(store, what), what == 2 ? 600 : 0);
            }
        }
        due("typed() at first", x.typed(), "");
    }

    private static void p2() {
        Postroom x = new Postroom();
        due("say", x.say(0, -1, 8, 9, -1, 38), 4);
        due("typed", x.typed(), "a F|");
        due("taken away", x.say(39, 7, 39, 39, -1, -1), 2);
        due("nothing to take away", new Postroom().say(39, 39, 0, -1, -1, -1), 1);
        due("typed", x.typed(), "a ");
        due("emptied", x.say(1, 2, 40, 39, 28, 37), 2);
        due("typed", x.typed(), "09");
        for (int code = 0; code <= 38; code++) {
            x.say(40, code, -1, -1, -1, -1);
            due("sign " + code, x.typed(), "" + SIGNS.charAt(code));
        }
        type(x, times(298, "a"));
        fails("301 signs", STATE, () -> x.say(0, 0, 0, -1, -1, -1));
        fails("301 signs at some moment", STATE, () -> x.say(0, 0, 0, 40, -1, -1));
        fails("41 and 301 signs", ARGUMENT, () -> x.say(0, 0, 0, 0, 0, 41));
        due("nothing has changed", x.house(6), 298);
        due("300 signs", x.say(0, 0, 39, 0, -1, -1), 300);
        fails("-2", ARGUMENT, () -> x.say(-2, -1, -1, -1, -1, -1));
        fails("41 in the middle", ARGUMENT, () -> x.say(-1, -1, 41, -1, -1, -1));
        due("nothing has changed", x.house(6), 300);
    }

    private static void p3() {
        Postroom x = new Postroom();
        due("build", x.build(6, 12, 7, 999, 7, true), 47);
        due("typed", x.typed(), "F:c@b|I:12|S:a:d b|R:999|T:d@b||ddd|ddd|ddd|ddd");
        due("build the smallest", x.build(0, 0, 0, -1, 0, false), 25);
        due("typed", x.typed(), "F:a@a|I:0|S:a a|T:a@a||aa");
        due("build", x.build(15, 999, 15, 0, 14, false), 46);
        due("typed", x.typed(), "F:d@d|I:999|S:d d|R:0|T:c@d||ccccc|ccccc|ccccc");
        fails("from", ARGUMENT, () -> x.build(16, 0, 0, 0, 0, false));
        fails("from", ARGUMENT, () -> x.build(-1, 0, 0, 0, 0, false));
        fails("name", ARGUMENT, () -> x.build(0, 1000, 0, 0, 0, false));
        fails("name", ARGUMENT, () -> x.build(0, -1, 0, 0, 0, false));
        fails("subject", ARGUMENT, () -> x.build(0, 0, 16, 0, 0, false));
        fails("subject", ARGUMENT, () -> x.build(0, 0, -1, 0, 0, false));
        fails("ref", ARGUMENT, () -> x.build(0, 0, 0, 1000, 0, false));
        fails("ref", ARGUMENT, () -> x.build(0, 0, 0, -2, 0, false));
        fails("body", ARGUMENT, () -> x.build(0, 0, 0, 0, 16, false));
        fails("body", ARGUMENT, () -> x.build(0, 0, 0, 0, -1, false));
        due("nothing has changed", x.house(6), 46);
    }

    private static void p4() {
        Postroom x = new Postroom();
        post(x, 0, "I:5|F:a(c)@b|S: a: f: b a:|R:3  4|K:a||ab||>c");
        due("answer", x.answer(0, 4, 7, false), 43);
        due("answered", x.typed(), "F:a@b|I:7|S:a:b a:|R:3 4 5|T:a@b||>ab|>|>>c");
        due("pass on", x.answer(0, 4, 7, true), 26);
        due("passed on", x.typed(), "F:a@b|I:7|S:f:b a:||ab||>c");
        post(x, 0, "F:b <c@d>|I:6");
        due("answer without a body", x.answer(1, 0, 8, false), 25);
        due("answered", x.typed(), "F:a@a|I:8|S:a:|R:6|T:c@d|");
        post(x, 0, "F:c@d|I:9||");
        due("answer with a body of one line", x.answer(2, 0, 8, false), 27);
        due("answered", x.typed(), "F:a@a|I:8|S:a:|R:9|T:c@d||>");
        due("pass on without a subject", x.answer(2, 0, 8, true), 16);
        fails("no letter", INDEX, () -> x.answer(3, 0, 0, true));
        fails("no letter", INDEX, () -> x.answer(-1, 99, 0, true));
        fails("from", ARGUMENT, () -> x.answer(0, 16, 0, true));
        fails("from", ARGUMENT, () -> x.answer(0, -1, 0, true));
        fails("name", ARGUMENT, () -> x.answer(0, 0, 1000, false));
        fails("name", ARGUMENT, () -> x.answer(0, 0, -1, false));
        due("nothing has changed", x.typed(), "F:a@a|I:8|S:f:||");
        // "F:a@a|I:2|S:a:|R:1|T:a@a||>" has 27 signs
        post(x, 1, "F:a@a|I:1||" + times(274, "a"));
        due("an answer of 301 signs", x.answer(3, 0, 2, false), -4);
        due("nothing has changed", x.house(6), 285);
        post(x, 1, "F:a@a|I:2||" + times(273, "a"));
        due("an answer of 300 signs", x.answer(4, 0, 3, false), 300);
        due("passed on", x.answer(3, 0, 2, true), 290);
    }

    private static void p5() {
        Postroom x = typing("ab|");
        due("poke", x.poke(1, 38), 1);
        due("poke", x.poke(2, 0), 38);
        due("poke", x.poke(0, 37), 0);
        due("typed", x.typed(), "9|a");
        fails("place", INDEX, () -> x.poke(3, 39));
        fails("place", INDEX, () -> x.poke(-1, 0));
        fails("code", ARGUMENT, () -> x.poke(0, 39));
        fails("code", ARGUMENT, () -> x.poke(0, -1));
        due("nothing has changed", x.typed(), "9|a");
    }

    private static void p6() {
        Postroom x = typing("aaaaaaaaaa bbbbbbbbbb cc");
        due("place 10, as place 21 is behind 20", x.fold(), 2);
        due("typed", x.typed(), "aaaaaaaaaa| bbbbbbbbbb cc");
        type(x, "aa bb cc dd ee ff gg hh");
        due("the last one up to place 20", x.fold(), 2);
        due("typed", x.typed(), "aa bb cc dd ee ff gg| hh");
        type(x, "aaaaaaaaaaaaaaaaaaaa b");
        due("place 20", x.fold(), 2);
        due("typed", x.typed(), "aaaaaaaaaaaaaaaaaaaa| b");
        type(x, "aaaaaaaaaaaaaaaaaaaaa bb cc");
        due("the first behind place 20", x.fold(), 2);
        due("typed", x.typed(), "aaaaaaaaaaaaaaaaaaaaa| bb cc");
        type(x, " " + times(20, "a") + "|" + times(30, "b") + "|a b");
        due("place 0 is none", x.fold(), 3);
        due("typed", x.typed(), " " + times(20, "a") + "|" + times(30, "b") + "|a b");
        type(x, times(20, "a ").substring(0, 20));
        due("20 signs stay", x.fold(), 1);
        type(x, times(50, " "));
        due("blanks", x.fold(), 3);
        due("typed", x.typed(), times(20, " ") + "|" + times(20, " ") + "|" + times(10, " "));
        type(x, times(14, "aaaaaaaaaa bbbbbbbbb ") + "cccc");
        due("too long", x.fold(), -4);
        due("nothing has changed", x.house(6), 298);
        type(x, times(278, "a") + " " + times(20, "b"));
        due("to 300 signs", x.fold(), 2);
        due("300 signs", x.house(6), 300);
        due("an empty text", typing("").fold(), 1);
    }

    private static void p7() {
        Postroom x = typing("a| b||  c|d");
        due("unfold", x.unfold(), 3);
        due("typed", x.typed(), "a b|  c|d");
        type(x, "| |");
        due("unfold", x.unfold(), 2);
        due("typed", x.typed(), " |");
        due("an empty text", typing("").unfold(), 1);
    }

    private static void p8() {
        Postroom x = typing("a||>b");
        due("quote", x.quote(), 3);
        due("typed", x.typed(), ">a|>|>>b");
        type(x, times(299, "a"));
        due("quote 299", x.quote(), 1);
        due("300 signs", x.house(6), 300);
        due("quote 300", x.quote(), -4);
        due("nothing has changed", x.house(6), 300);
        due("an empty text", typing("").quote(), 1);
    }

    private static void p9() {
        Postroom x = typing(">a|b>|>>c||>");
        due("unquote", x.unquote(), 3);
        due("typed", x.typed(), "a|b>|>c||");
        due("unquote", x.unquote(), 1);
        due("typed", x.typed(), "a|b>|c||");
        due("unquote", x.unquote(), 0);
    }

    private static void p10() {
        Postroom x = typing("ah 09|FX:|@|");
        due("code q", x.code(false), 20);
        due("typed", x.typed(), "ah 09|=46=58=3a|=40|");
        // 97, 32, 57 and 58 are 6 * 16 + 1, 2 * 16, 3 * 16 + 9 and 3 * 16 + 10
        type(x, "a 9|:|");
        due("code b", x.code(true), 10);
        due("typed", x.typed(), "gbcad1|d2|");
        type(x, times(100, "="));
        due("code q to 300", x.code(false), 300);
        due("q can not", x.code(false), -4);
        due("nothing has changed", x.house(6), 300);
        type(x, times(151, "a"));
        due("b can not", x.code(true), -4);
        due("q can", x.code(false), 151);
        due("an empty text", typing("").code(false), 0);
    }

    private static void p11() {
        Postroom x = typing("a=3d=20?|=46");
        due("uncode q", x.uncode(false), 6);
        due("typed", x.typed(), "a= ?|F");
        // 63 and 55 are 3 * 16 + 15 and 3 * 16 + 7
        type(x, "gbca||d7dh");
        due("uncode b", x.uncode(true), 6);
        due("typed", x.typed(), "a ||?7");
        String[] badQ = {"=", "=3", "a=|3d", "=3g", "=g3", "==3d", "=7c", "=69", "=ff", "=0a"};
        for (String text : badQ) {
            type(x, text);
            due("uncode q " + text, x.uncode(false), -9);
            due("nothing has changed", x.typed(), text);
        }
        String[] badB = {"g", "gb|g", "g8", "8g", "g ", "=g", "g9", "aa", "77", "74", "h4"};
        for (String text : badB) {
            type(x, text);
            due("uncode b " + text, x.uncode(true), -9);
            due("nothing has changed", x.typed(), text);
        }
        due("an empty text", typing("").uncode(true), 0);
        due("an empty text", typing("").uncode(false), 0);
        due("empty lines", typing("||").uncode(true), 2);
    }

    private static void p12() {
        due("typed", typing(SIGNS).typed(), SIGNS);
    }

    private static void fault(String text, int want) {
        due("fault of " + text, typing(text).fault(), want);
    }

    private static void p13() {
        fault("", 0);
        fault("F:a@a|I:1", -1);
        fault("F:a@a|I:1|", -1);
        fault("F:a@a|I:1||a|b", -1);
        fault("I:1||F:a@a", 1);
        fault("I:1", 1);
        fault("F:a@a", 1);
        fault("F:a@a|S:b||", 2);
        fault("F:a@a|a|I:1", 1);
        fault("a|F:a@a|I:1", 0);
        fault(" F:a@a|I:1", 0);
        fault("F:a@a|| |I:1", 1);
        fault("F:|  a@a|I:| 1| ", -1);
        fault("F:a@a|I:1| 2", 1);
        fault("F:a@a|F a@a|I:1", 1);
        fault("F:a@a|I:1|S:a|S:b", 3);
        fault("F:a@a|I:1|F:a@a", 2);
        fault("F:a@a|I:1|X:a|X:b|X:", -1);
        fault("F:a@a,b@b|I:1", 0);
        fault("F:|I:1", 0);
        fault("F::a@a;|I:1", 0);
        fault("F::;|I:1", 0);
        fault("F:a <b@c> (d)|I:1", -1);
        fault("I:1|F:a@", 1);
        fault("F:a@a|I:1|T:", -1);
        fault("F:a@a|I:1|T:a@b,", 2);
        fault("F:a@a|I:1|T:a@b,c:;,d:e@f,<g@h>;", -1);
        fault("F:a@a|I:|T:a@b", 1);
        fault("F:a@a|I:01", 1);
        fault("F:a@a|I:0", -1);
        fault("F:a@a|I:999", -1);
        fault("F:a@a|I:1000", 1);
        fault("F:a@a|I:1a", 1);
        fault("F:a@a|I:1|R:", -1);
        fault("F:a@a|I:1|R:1  22 333 ", -1);
        fault("F:a@a|I:1|R:1,2", 2);
        fault("F:a@a|I:1|R:1 02", 2);
        fault("F:a@a|I:1|R:1 1000", 2);
        fault("F:a@a|I:1|K:a||=", -1);
        fault("F:a@a|I:1|K:", 2);
        fault("F:a@a|I:1|K:e", 2);
        fault("F:a@a|I:1|K:aa", 2);
        fault("F:a@a|I:1|K:c||a|=3d?|=", 6);
        fault("F:a@a|I:1|K:c||a|=ff", -1);
        fault("F:a@a|I:1|K:b||77|a|=", 5);
        fault("F:a@a|I:1|K:b||a8", 4);
        fault("F:a@a|I:1|K:b||", -1);
        fault("F:a@a|I:1|K:b", -1);
        fault("F:a@a|I:1|K:b|K:c||a", 3);
    }

    private static void p13InParts() {
        String head = "F:a@a|I:1|K:d5|";
        fault(head + "|--5|--5-", -1);
        fault(head + "|--5||--5-", -1);
        fault(head + "|hh|--5-|--5|K:c||=3d|--5||=|--5-|--5|hh", -1);
        fault(head + "|--5", 5);
        fault(head + "|--5-", 5);
        fault(head + "|--5-|--5", 6);
        fault(head + "|--5 |--5-", 6);
        fault(head + "|--05|--5-", 6);
        fault(head + "|a-5|--5-", 6);
        fault(head + "|-a5|--5-", 6);
        fault(head + "|5|--5-", 6);
        fault(head + "|--5|-5-", 6);
        fault("F:a@a|I:1|K:d5", 3);
        fault("F:a@a|I:1|K:d", 2);
        fault("F:a@a|I:1|K:d05", 2);
        fault("F:a@a|I:1|K:d 5", 2);
        fault("F:a@a|I:1|K:d1000", 2);
        fault(head + "|--5|hh|--5-", 5);
        fault(head + "|--5|K:c||a|=|--5-", 8);
        fault(head + "|--5|K:b||a1|--5|F:a|--5-", 9);
        fault(head + "|--5|I:a|--5-", 5);
        fault(head + "|--5|S:a|S:a|--5-", 6);
        fault(head + "|--5|K:d6||--6|a|--6-|--5-", 8);
        fault(head + "|--5|K:d6||--6||a|--6-|--5-", -1);
        fault(head + "|--5|K:d6||--6|--5|--5-", 8);
        fault(head + "|--5|K:d5||--5|--5-", 7);
        fault(head + "|--5|K:d6||--6|K:d7||--7|K:a||b|--7-|--6-|--5-", -1);
        fault(head + "|--5|K:d6||--6|K:d7||--7|K:d8||--8|--8-|--7-|--6-|--5-", 11);
        fault("K:d5||--5|hh|--5-", 1);
    }

    private static void p14() {
        Postroom x = typing(">>a>|b>||>");
        due("depth", x.depth(0), 2);
        due("depth", x.depth(1), 0);
        due("depth", x.depth(2), 0);
        due("depth", x.depth(3), 1);
        due("no such line", x.depth(4), -1);
        due("no such line", x.depth(Integer.MAX_VALUE), -1);
        fails("below 0", ARGUMENT, () -> x.depth(-1));
        due("an empty text", typing("").depth(0), 0);
    }

    private static void list(String text, int want) {
        due("addresses of " + text, typing(text).addresses(), want);
    }

    private static void p15() {
        list("", 0);
        list("   ", 0);
        list("(a@b)", 0);
        list(" (a(b)(c)) ", 0);
        list("a@b", 1);
        list(" a@b , 0-h@-9 ", 2);
        list("a@b,", -3);
        list(",a@b", -3);
        list("a@b,,a@b", -3);
        list("a@b, ,a@b", -3);
        list("a@b c@d", -3);
        list("a @b", -3);
        list("a@", -3);
        list("@b", -3);
        list("a@b@c", -3);
        list("a(x)b(y)@(z)c", 1);
        list("F@b", -3);
        list("<a@b>", 1);
        list("F =?_-9|(x) <a@b> ", 1);
        list("a<a@b> c", -3);
        list("a< a@b>", -3);
        list("a<a@b", -3);
        list("a a@b>", -3);
        list("a<<a@b>>", -3);
        list("a>b<a@b>", -3);
        list("a@b<a@b>", -3);
        list("a;b<a@b>", -3);
        list(":;", 0);
        list("a b:  ;", 0);
        list("a:b@c;", 1);
        list(" a: b@c , d <e@f> ; , g@h", 3);
        list("a:b@c,;", -3);
        list("a:,b@c;", -3);
        list("a:b@c", -3);
        list("a:b@c;d", -3);
        list("a:b@c;d@e", -3);
        list("a:b@c;;", -3);
        list("a:b:c@d;;", -3);
        list("a:b:c@d;", -3);
        list("a:;b:;", -3);
        list("a@b:c@d;", -3);
        list("a<b:c@d;", -3);
        list("a:;,b:;", 0);
        list(";", -3);
        list("a@b;", -3);
        list("(a@b", -3);
        list("a@b)", -3);
        list(")a@b(", -3);
        list("((a)b)a@b(c)", 1);
        list("((a)a@b", -3);
        list("a@b|c@d", -3);
        list(times(74, "a@b,") + "c@d", 75);
        list(times(150, "(") + times(150, ")"), 0);
    }

    private static void p16() {
        Postroom x = typing("a (c) <b@c>, d: e@f,(x)g@(y)h;,a-0@b");
        due("address", x.address(0, false), "b@c");
        due("host", x.address(0, true), "c");
        due("address", x.address(1, false), "e@f");
        due("address", x.address(2, false), "g@h");
        due("host", x.address(2, true), "h");
        due("address", x.address(3, false), "a-0@b");
        due("not so many", x.address(4, false), "");
        due("not so many", x.address(Integer.MAX_VALUE, true), "");
        fails("below 0", ARGUMENT, () -> x.address(-1, false));
        due("no list", typing("a@b,").address(0, false), "");
    }

    private static void p17() {
        Postroom x = new Postroom();
        due("post", post(x, 0, "F:a@a|I:7"), 0);
        due("post", post(x, 1, "F:a@a|I:3"), 1);
        due("the same into the other store", x.post(0), 1);
        due("held already", x.post(0), -4);
        due("another text", post(x, 0, "F:a@a|I:3|"), -5);
        due("a fault", post(x, 0, "F:a@a"), -3);
        fails("store", INDEX, () -> x.post(2));
        fails("store", INDEX, () -> x.post(-1));
        due("places", x.held(0, 1, 0), 2);
        x.tick(5);
        x.flag(0, 0, 3, true);
        x.expunge(0);
        due("it comes again", post(x, 0, "F:a@a|I:7"), 0);
        due("with the next place", x.held(0, 0, 0), 3);
        due("without flags", x.held(0, 0, 1), 0);
        due("with its time", x.ofLetter(0, 4), 0);
        due("count", x.ofStore(0, 3), 5);
        due("stamp", x.held(0, 0, 2), 5);
        x.quota(0, 100);
        String hundred = "F:a@a|I:4||" + times(89, "a");
        due("as many as the quota", post(x, 0, hundred), 2);
        due("all others are thrown out", x.ofStore(0, 10), 2);
        due("more than the quota", post(x, 0, hundred.replace("I:4", "I:5") + "a"), -6);
        due("no letter by that", x.house(0), 3);
        postThrows();
        postThirty();
    }

    private static void postThrows() {
        Postroom x = new Postroom();
        String body = "||" + times(90, "a");
        for (int name = 0; name < 6; name++) {
            due("post", post(x, 0, "F:a@a|I:" + name + body.substring(0, 91)), name);
        }
        due("600 signs", x.ofStore(0, 1), 600);
        x.flag(0, 0, 2, true);
        x.flag(0, 0, 0, true);
        x.flag(0, 3, 0, true);
        x.flag(0, 5, 3, true);
        x.flag(0, 5, 2, true);
        int[] out = {5, 3, 1, 2};
        for (int i = 0; i < out.length; i++) {
            post(x, 0, "F:a@a|I:" + (10 + i) + body.substring(0, 90));
            due("thrown out", x.held(0, out[i], 0), -9);
            due("so many", x.ofStore(0, 10), i + 1);
        }
        x.rule(2, 0, 1, false);
        x.flag(0, 6, 3, true);
        x.flag(0, 7, 3, true);
        post(x, 0, "F:a@a|I:20||" + times(110, "a"));
        due("two are thrown out", x.ofStore(0, 10), 6);
        due("a rule is tried", x.box(0, 1), "10");
        due("held", x.ofStore(0, 0), 5);
    }

    private static void postThirty() {
        Postroom x = new Postroom();
        x.quota(0, 2000);
        for (int name = 0; name < 30; name++) {
            due("post", post(x, 0, "F:a@a|I:" + name), name);
        }
        type(x, "F:a@a|I:30");
        fails("30 letters", STATE, () -> x.post(0));
        fails("30 letters, and more than quota", STATE, () -> {
            x.quota(1, 100);
            type(x, "F:a@a|I:30||" + times(100, "a"));
            return x.post(1);
        });
        fails("store", INDEX, () -> x.post(2));
        due("a fault", post(x, 0, "F:a@a"), -3);
        due("another text", post(x, 0, "F:a@a|I:5|"), -5);
        due("the same", post(x, 0, "F:a@a|I:5"), -4);
        due("the other store", post(x, 1, "F:a@a|I:5"), 5);
    }

    private static void p18() {
        Postroom x = new Postroom();
        post(x, 0, "F:a@a|I:0");
        due("flag", x.flag(0, 0, 1, true), 0);
        due("flag", x.flag(0, 0, 1, true), 1);
        due("flag", x.flag(0, 0, 3, true), 0);
        due("flags", x.held(0, 0, 1), 10);
        due("count", x.ofStore(0, 3), 3);
        due("stamp", x.held(0, 0, 2), 3);
        due("flag", x.flag(0, 0, 2, false), 0);
        due("the same flags", x.ofStore(0, 3), 3);
        due("flag", x.flag(0, 0, 1, false), 1);
        due("stamp", x.held(0, 0, 2), 4);
        due("flags", x.held(0, 0, 1), 8);
        fails("store", INDEX, () -> x.flag(2, 0, 0, true));
        fails("not held", INDEX, () -> x.flag(1, 0, 4, true));
        fails("no letter", INDEX, () -> x.flag(0, 1, 0, true));
        fails("no letter", INDEX, () -> x.flag(0, -1, 0, true));
        fails("no letter", INDEX, () -> x.flag(0, 30, 0, true));
        fails("which", ARGUMENT, () -> x.flag(0, 0, 4, true));
        fails("which", ARGUMENT, () -> x.flag(0, 0, -1, true));
    }

    /** Letters with these names in store 0. */
    private static Postroom withLetters(int count) {
        Postroom x = new Postroom();
        for (int i = 0; i < count; i++) {
            post(x, 0, "F:a@a|I:" + i);
        }
        return x;
    }

    private static void p19() {
        Postroom x = withLetters(5);
        x.flag(0, 1, 3, true);
        x.flag(0, 2, 3, true);
        x.flag(0, 4, 3, true);
        x.flag(0, 4, 2, true);
        due("expunge", x.expunge(0), 3);
        due("held", x.since(0, 0), "0 3");
        due("count", x.ofStore(0, 3), 12);
        due("none is thrown out", x.ofStore(0, 10), 0);
        due("signs", x.ofStore(0, 1), 18);
        due("expunge", x.expunge(0), 0);
        due("the other store", x.expunge(1), 0);
        fails("store", INDEX, () -> x.expunge(2));
        fails("store", INDEX, () -> x.expunge(-1));
    }

    private static void p20() {
        Postroom x = withLetters(2);
        x.tick(10);
        post(x, 0, "F:a@a|I:2");
        x.tick(5);
        x.flag(0, 0, 2, true);
        due("expire", x.expire(0, 16), 0);
        due("expire", x.expire(0, 15), 1);
        due("held", x.since(0, 0), "2 0");
        due("expire", x.expire(0, 0), 1);
        due("marked", x.since(0, 0), "0");
        Postroom y = new Postroom();
        post(y, 0, "F:a@a|I:1");
        y.tick(9);
        post(y, 0, "F:a@a|I:2|R:1");
        y.expire(0, 9);
        due("a parent expired", y.thread(0, 1) + y.held(0, 1, 3), "1-1");
        due("count", x.ofStore(0, 3), 6);
        post(x, 1, "F:a@a|I:1");
        due("the time is that when it came first", x.expire(1, 15), 1);
        fails("store", INDEX, () -> x.expire(2, -1));
        fails("minutes", ARGUMENT, () -> x.expire(0, -1));
        fails("minutes", ARGUMENT, () -> x.expire(0, 1000));
        due("999", x.expire(0, 999), 0);
    }

    private static void p21() {
        Postroom x = new Postroom();
        for (int i = 0; i < 4; i++) {
            post(x, 0, "F:a@a|I:" + i + "|" + times(6, "|aaaa") + "|aaa");
        }
        due("signs", x.ofStore(0, 1), 176);
        due("as many", x.quota(0, 176), 0);
        x.flag(0, 2, 0, true);
        due("one", x.quota(0, 175), 1);
        due("that was seen", x.held(0, 2, 0), -9);
        x.flag(0, 0, 2, true);
        due("one", x.quota(0, 100), 1);
        due("that is not marked", x.held(0, 1, 0), -9);
        due("quota", x.ofStore(0, 2), 100);
        due("thrown out", x.ofStore(0, 10), 2);
        due("the other one", x.ofStore(1, 2), 600);
        due("2000", x.quota(0, 2000), 0);
        post(x, 1, "F:a@a|I:9||" + times(80, "a"));
        post(x, 1, "F:a@a|I:10|R:9");
        due("a parent is thrown out", x.quota(1, 100), 1);
        due("a parent is thrown out", x.thread(1, 5), "5");
        fails("store", INDEX, () -> x.quota(2, 0));
        fails("store", INDEX, () -> x.quota(-1, 100));
        fails("signs", ARGUMENT, () -> x.quota(0, 99));
        fails("signs", ARGUMENT, () -> x.quota(0, 2001));
        due("nothing has changed", x.ofStore(0, 2), 2000);
    }

    private static void p22() {
        Postroom x = new Postroom();
        post(x, 0, "F:a@a|I:9");
        post(x, 0, "F:a@a|I:5");
        post(x, 1, "F:a@a|I:7");
        post(x, 1, "F:a@a|I:5");
        post(x, 1, "F:a@a|I:2");
        x.flag(0, 0, 1, true);
        x.flag(0, 1, 0, true);
        x.flag(0, 1, 3, true);
        x.flag(1, 1, 2, true);
        x.rule(0, 0, 2, false);
        due("bring", x.bring(), 5);
        due("by rising names", x.since(0, 5), "3 1 2");
        due("by rising names", x.since(1, 4), "1 0");
        due("with its flags", x.held(1, 0, 1), 2);
        due("one count for it", x.held(1, 0, 2), 6);
        due("gone in one alone", x.held(0, 1, 1), 5);
        due("in both", x.held(1, 1, 1), 5);
        due("rules are tried for those that come", x.box(0, 2) + "/" + x.box(1, 2), "2 3/0");
        due("again", x.bring(), 0);
        x.flag(0, 1, 3, true);
        x.flag(1, 1, 3, true);
        due("gone in both", x.bring(), 0);
        due("gone in both", x.held(0, 1, 1), 13);
        x.expunge(0);
        due("comes with its flags", x.bring(), 1);
        due("comes with its flags", x.held(0, 1, 1), 13);
        bringQuota();
    }

    private static void bringQuota() {
        Postroom x = new Postroom();
        post(x, 0, "F:a@a|I:0||" + times(49, "a"));
        post(x, 1, "F:a@a|I:1||" + times(40, "a"));
        x.quota(0, 110);
        due("above the quota of 0", x.bring(), -6);
        x.quota(0, 111);
        due("above no quota", x.bring(), 2);
        Postroom z = new Postroom();
        post(z, 0, "F:a@a|I:0||" + times(49, "a"));
        post(z, 1, "F:a@a|I:1|R:0|" + times(5, "|aaaaaa"));
        due("in a store alone", z.thread(1, 1), "1");
        z.quota(1, 109);
        due("as much as the quota of 1", z.bring(), 2);
        due("parents in 0", z.thread(0, 1), "0(1)");
        due("parents in 1", z.thread(1, 1), "0(1)");
        z.expire(0, 0);
        z.expire(1, 0);
        due("what is held in none does not come", z.bring(), 0);
        Postroom y = new Postroom();
        post(y, 0, "F:a@a|I:0||" + times(49, "a"));
        post(y, 1, "F:a@a|I:1||" + times(40, "a"));
        y.quota(1, 110);
        due("above the quota of 1", y.bring(), -6);
        due("nothing has changed", y.ofStore(0, 0), 1);
    }

    private static void p23() {
        Postroom x = withLetters(1);
        for (int i = 1; i <= 5; i++) {
            due("rule", x.rule(2, 999, 3, false), i);
        }
        fails("kind", ARGUMENT, () -> x.rule(5, 0, 0, false));
        fails("kind", ARGUMENT, () -> x.rule(-1, 0, 0, false));
        fails("value", ARGUMENT, () -> x.rule(0, 1000, 0, false));
        fails("value", ARGUMENT, () -> x.rule(0, -1, 0, false));
        fails("box", ARGUMENT, () -> x.rule(0, 0, 4, false));
        fails("box", ARGUMENT, () -> x.rule(0, 0, -1, false));
        due("rule", x.rule(2, 0, 1, false), 6);
        fails("6 rules", STATE, () -> x.rule(0, 0, 0, false));
        fails("6 rules, and a kind", ARGUMENT, () -> x.rule(5, 0, 0, false));
        due("boxes stay", x.box(0, 1), "");
        post(x, 0, "F:a@a|I:8");
        due("a rule is tried", x.box(0, 1), "1");
        rulesInOrder();
    }

    private static void rulesInOrder() {
        Postroom x = new Postroom();
        x.rule(0, 1, 0, false);
        x.rule(1, 2, 1, true);
        x.rule(3, 7, 2, false);
        x.rule(4, 3, 3, false);
        post(x, 0, "F:a@b|I:0|S:a|R:8 7|T:c@a,e:d@b;");
        post(x, 0, "F:a@bc|I:1|S:ac|R:7");
        post(x, 0, "F:b@a|I:2|S:f: h|R:77|T:c@d");
        due("host", x.box(0, 0), "0 1");
        due("subject, and that is all", x.box(0, 1), "1");
        due("in R", x.box(0, 2), "0");
        due("to", x.box(0, 3), "0");
        Postroom y = new Postroom();
        y.rule(0, 8, 0, false);
        y.rule(1, 8, 1, false);
        y.rule(4, 8, 2, false);
        y.rule(2, 1, 3, false);
        post(y, 0, "F:a@b|I:10");
        post(y, 0, "F:a@b|I:1");
        due("no such letter of a host", y.box(0, 0), "");
        due("no such letter of a subject", y.box(0, 1), "");
        due("no such letter of T", y.box(0, 2), "");
        due("10 signs", y.box(0, 3), "0");
    }

    private static void p24() {
        Postroom x = new Postroom();
        x.rule(2, 0, 1, false);
        x.rule(2, 0, 2, false);
        post(x, 0, "F:a@a|I:0");
        due("unrule", x.unrule(), 1);
        due("boxes stay", x.box(0, 2), "0");
        post(x, 0, "F:a@a|I:1");
        due("the last one is gone", x.box(0, 2) + "/" + x.box(0, 1), "0/0 1");
        due("unrule", x.unrule(), 0);
        due("unrule", x.unrule(), 0);
    }

    private static void p25() {
        Postroom x = withLetters(2);
        x.rule(2, 0, 1, false);
        post(x, 0, "F:a@a|I:7");
        post(x, 1, "F:a@a|I:8");
        x.unrule();
        x.rule(3, 5, 0, false);
        post(x, 0, "F:a@a|I:9|R:5");
        due("box", x.box(0, 1) + "/" + x.box(0, 0), "2/4");
        due("rerun", x.rerun(0), 1);
        due("box", x.box(0, 1) + "/" + x.box(0, 0), "/4");
        due("the other store", x.box(1, 1), "3");
        x.rule(2, 0, 3, false);
        due("rerun", x.rerun(0), 4);
        due("count stays", x.ofStore(0, 3), 4);
        fails("store", INDEX, () -> x.rerun(2));
        fails("store", INDEX, () -> x.rerun(-1));
    }

    private static void p26() {
        Postroom x = new Postroom();
        x.rule(2, 0, 3, false);
        post(x, 1, "F:a@a|I:9");
        post(x, 0, "F:a@a|I:8");
        post(x, 0, "F:a@a|I:9");
        due("by rising numbers", x.box(0, 3), "0 1");
        x.flag(0, 0, 3, true);
        x.expunge(0);
        due("it left", x.box(0, 3), "1");
        due("the other store", x.box(1, 3), "0");
        x.expire(1, 0);
        due("it left", x.box(1, 3), "");
        fails("store", INDEX, () -> x.box(2, 0));
        fails("store", INDEX, () -> x.box(-1, 0));
        fails("box", INDEX, () -> x.box(0, 4));
        fails("box", INDEX, () -> x.box(0, -1));
    }

    private static void p27() {
        Postroom x = new Postroom();
        post(x, 0, "F:a@a|I:1");
        post(x, 0, "F:a@a|I:2|R:1");
        post(x, 0, "F:a@a|I:3");
        x.flag(0, 0, 0, true);
        x.flag(0, 1, 0, true);
        x.flag(0, 2, 0, true);
        x.flag(0, 0, 1, true);
        x.flag(0, 1, 1, true);
        x.flag(0, 0, 2, true);
        x.flag(0, 2, 3, true);
        int[] want = {3, 31, 600, 10, 3, 2, 3, 2, 1, 1, 0};
        for (int what = 0; what <= 10; what++) {
            due("ofStore(0, " + what + ")", x.ofStore(0, what), want[what]);
        }
        x.expunge(0);
        due("places that were told", x.ofStore(0, 4), 3);
        due("seen ones", x.ofStore(0, 6), 2);
        fails("store", INDEX, () -> x.ofStore(2, 11));
        fails("store", INDEX, () -> x.ofStore(-1, 0));
        fails("what", ARGUMENT, () -> x.ofStore(0, 11));
        fails("what", ARGUMENT, () -> x.ofStore(0, -1));
    }

    private static void p28() {
        Postroom x = withLetters(3);
        x.flag(0, 0, 1, true);
        due("all", x.since(0, 0), "1 2 0");
        due("all", x.since(0, -5), "1 2 0");
        due("above 2", x.since(0, 2), "2 0");
        due("above 3", x.since(0, 3), "0");
        due("above 4", x.since(0, 4), "");
        due("above", x.since(0, Integer.MAX_VALUE), "");
        due("the other store", x.since(1, 0), "");
        fails("store", INDEX, () -> x.since(2, 0));
        fails("store", INDEX, () -> x.since(-1, 0));
    }

    private static void p29() {
        Postroom x = new Postroom();
        post(x, 0, "F:a@a|I:1||abc");
        post(x, 0, "F:a@a|I:2||ab");
        post(x, 1, "F:a@a|I:3||abcd");
        post(x, 0, "F:a@a|I:3||abcd");
        x.flag(0, 0, 3, true);
        x.expunge(0);
        post(x, 0, "F:a@a|I:1||abc");
        due("by places", type(x, "abc").search(0), "2 0");
        due("all", type(x, "").search(0), "1 2 0");
        due("over lines", type(x, "||ab").search(0), "1 2 0");
        due("a whole text", type(x, "F:a@a|I:2||ab").search(0), "1");
        due("longer than a text", type(x, "F:a@a|I:2||abc").search(0), "");
        due("the other store", type(x, "bcd").search(1), "2");
        fails("store", INDEX, () -> x.search(2));
        fails("store", INDEX, () -> x.search(-1));
    }

    private static final String RICH = "X: b=| c  |S: a: f: a b|F:c(d)@d (e)|I:77|R:5  12 5|X:e|"
            + "T:a@b, g: c@d,<e@f>;||ab||c";

    private static void p30() {
        Postroom x = new Postroom();
        x.tick(3);
        due("post", post(x, 0, RICH), 0);
        int[] want = {77, RICH.length(), 7, 1, 3, 3, 3, 3, 1, -1};
        for (int what = 0; what <= 9; what++) {
            due("ofLetter(0, " + what + ")", x.ofLetter(0, what), want[what]);
        }
        post(x, 0, "F:a@a|I:1|S:f:a:|K:d12||--12|R:1||--12||a|--12|K:d1||--1|--1|--1-|--12-");
        int[] plain = {1, 71, 4, 4, 3, 0, 0, 13, 0, 12};
        for (int what = 0; what <= 9; what++) {
            due("ofLetter(1, " + what + ")", x.ofLetter(1, what), plain[what]);
        }
        post(x, 0, "F:a@a|I:2");
        due("no body", x.ofLetter(2, 7), 0);
        post(x, 0, "F:a@a|I:3|");
        due("no body", x.ofLetter(3, 7), 0);
        post(x, 0, "F:a@a|I:4||");
        due("a body of an empty line", x.ofLetter(4, 7), 1);
        Postroom y = new Postroom();
        post(y, 0, "F:a@a|I:0|K:d0||--0" + times(68, "|--0") + "|--0-");
        due("as many leaves as there can be", y.ofLetter(0, 3), 69);
        due("the last leaf", y.leaf(0, 68, 4), 1);
        due("behind the last leaf", y.leaf(0, 69, 4), -1);
        post(y, 0, "F:a@a|I:1|T:" + times(71, "a@a,") + "b@b");
        due("as many addresses as there can be", y.ofLetter(1, 6), 72);
        due("as many addresses as there can be", y.text(1, 5), times(71, "a@a ") + "b@b");
        post(y, 1, "F:a@a|I:2|R:" + times(143, "0 ") + "7");
        due("as many numbers as there can be", y.ofLetter(2, 5), 144);
        due("an answer would be too long", y.answer(2, 0, 3, false), -4);
        due("passed on", y.answer(2, 0, 3, true), 15);
        due("as many lines as there can be", type(y, times(300, "|")).unfold(), 301);
        due("as many lines as there can be", y.depth(300), 0);
        due("as many lines as there can be", y.quote(), -4);
        fails("letter", INDEX, () -> x.ofLetter(5, 10));
        fails("letter", INDEX, () -> x.ofLetter(-1, 0));
        fails("what", ARGUMENT, () -> x.ofLetter(0, 10));
        fails("what", ARGUMENT, () -> x.ofLetter(0, -1));
    }

    private static void p31() {
        Postroom x = new Postroom();
        post(x, 0, RICH);
        String[] want = {RICH, "c@d", "a: f: a b", "a b", "b= c", "a@b c@d e@f"};
        for (int what = 0; what <= 5; what++) {
            due("text(0, " + what + ")", x.text(0, what), want[what]);
        }
        post(x, 0, "F:a <a@b>|I:0");
        String[] plain = {"F:a <a@b>|I:0", "a@b", "", "", "", ""};
        for (int what = 0; what <= 5; what++) {
            due("text(1, " + what + ")", x.text(1, what), plain[what]);
        }
        String[][] bases = {{"a:f:", ""}, {"a:b:", "b:"}, {"b a:", "b a:"}, {"f : a", "f : a"}, {"a: a:  c a", "c a"}};
        for (int i = 0; i < bases.length; i++) {
            post(x, 0, "F:a@a|I:" + (10 + i) + "|S:" + bases[i][0]);
            due("base of " + bases[i][0], x.text(2 + i, 3), bases[i][1]);
        }
        fails("letter", INDEX, () -> x.text(7, 6));
        fails("letter", INDEX, () -> x.text(-1, 0));
        fails("what", ARGUMENT, () -> x.text(0, 6));
        fails("what", ARGUMENT, () -> x.text(0, -1));
    }

    private static void leaf(Postroom x, int letter, int nth, int... want) {
        for (int what = 0; what <= 4; what++) {
            due("leaf(" + letter + ", " + nth + ", " + what + ")", x.leaf(letter, nth, what), want[what]);
        }
    }

    private static void p32() {
        Postroom x = new Postroom();
        post(x, 0, "F:a@a|I:0||a||b");
        leaf(x, 0, 0, 4, 97 + 2 * 124 + 3 * 124 + 4 * 98, 97, 98, 0);
        leaf(x, 0, 1, -1, -1, -1, -1, -1);
        post(x, 0, "F:a@a|I:1|K:d1||--1|K:c||=ff?|--1|K:b||77|a0|--1|K:d2||--2||a|--2-|--1-");
        leaf(x, 1, 0, 2, 255 + 2 * 63, 255, 63, 1);
        leaf(x, 1, 1, 3, 255 + 2 * 124 + 3 * 8, 255, 8, 1);
        leaf(x, 1, 2, 1, 97, 97, 97, 2);
        leaf(x, 1, 3, -1, -1, -1, -1, -1);
        post(x, 0, "F:a@a|I:2");
        leaf(x, 2, 0, 0, 0, -1, -1, 0);
        post(x, 0, "F:a@a|I:3|K:d1||--1|K:d2||--2|K:d3||--3||b|--3-|--2-|--1|--1-");
        leaf(x, 3, 0, 1, 98, 98, 98, 3);
        leaf(x, 3, 1, 0, 0, -1, -1, 1);
        fails("letter", INDEX, () -> x.leaf(4, -1, 0));
        fails("letter", INDEX, () -> x.leaf(-1, 0, 0));
        fails("nth", ARGUMENT, () -> x.leaf(0, -1, 0));
        fails("what", ARGUMENT, () -> x.leaf(0, 0, 5));
        fails("what", ARGUMENT, () -> x.leaf(0, 9, -1));
        due("not so many", x.leaf(0, Integer.MAX_VALUE, 4), -1);
    }

    private static void p33() {
        Postroom x = new Postroom();
        x.quota(0, 2000);
        post(x, 0, "F:a@a|I:10|S:b");
        post(x, 0, "F:a@a|I:20|R:10 30");
        post(x, 0, "F:a@a|I:30|R:20 10 20 99");
        post(x, 0, "F:a@a|I:40|S:a: b");
        post(x, 0, "F:a@a|I:5|S:a:b");
        post(x, 0, "F:a@a|I:50|S:f:b");
        post(x, 0, "F:a@a|I:60|S:a:|R:60");
        post(x, 0, "F:a@a|I:70|S:a:");
        int[] parents = {-1, 0, 1, 4, -1, -1, -1, -1};
        int[] roots = {0, 0, 0, 4, 4, 5, 6, 7};
        int[] coming = {2, 1, 0, 0, 1, 0, 0, 0};
        for (int i = 0; i < 8; i++) {
            due("place of " + i, x.held(0, i, 0), i + 1);
            due("stamp of " + i, x.held(0, i, 2), i + 1);
            due("parent of " + i, x.held(0, i, 3), parents[i]);
            due("root of " + i, x.held(0, i, 4), roots[i]);
            due("ahead of " + i, x.held(0, i, 5), i);
            due("coming to " + i, x.held(0, i, 6), coming[i]);
        }
        x.flag(0, 1, 3, true);
        due("flags", x.held(0, 1, 1), 8);
        x.expunge(0);
        due("not held", x.held(0, 1, 3), -9);
        due("another parent", x.held(0, 2, 3), 0);
        due("ahead", x.held(0, 2, 5), 1);
        due("not held there", x.held(1, 0, 0), -9);
        fails("store", INDEX, () -> x.held(2, 0, 7));
        fails("store", INDEX, () -> x.held(-1, 0, 0));
        fails("letter", INDEX, () -> x.held(0, 8, 7));
        fails("letter", INDEX, () -> x.held(0, -1, 0));
        fails("what", ARGUMENT, () -> x.held(0, 0, 7));
        fails("what", ARGUMENT, () -> x.held(1, 0, -1));
    }

    private static void p34() {
        Postroom x = new Postroom();
        post(x, 0, "F:a@a|I:1");
        post(x, 0, "F:a@a|I:9|R:1");
        post(x, 0, "F:a@a|I:3|R:1");
        post(x, 0, "F:a@a|I:5|R:3");
        post(x, 0, "F:a@a|I:4|R:3");
        post(x, 0, "F:a@a|I:2");
        for (int i = 0; i < 5; i++) {
            due("thread of " + i, x.thread(0, i), "0(2(4 3) 1)");
        }
        due("alone", x.thread(0, 5), "5");
        due("not held", x.thread(1, 0), "");
        fails("store", INDEX, () -> x.thread(2, 0));
        fails("store", INDEX, () -> x.thread(-1, 0));
        fails("letter", INDEX, () -> x.thread(0, 6));
        fails("letter", INDEX, () -> x.thread(0, -1));
        Postroom y = new Postroom();
        StringBuilder chain = new StringBuilder("0");
        y.quota(0, 2000);
        post(y, 0, "F:a@a|I:100");
        for (int i = 1; i < 30; i++) {
            post(y, 0, "F:a@a|I:" + (100 + i) + "|R:" + (99 + i));
            chain.append("(").append(i);
        }
        due("a long chain", y.thread(0, 7), chain + ")".repeat(29));
        due("a long chain", y.held(0, 0, 6), 29);
        due("a long chain", y.held(0, 29, 4), 0);
        due("a long chain is sound", y.isSound(), true);
    }

    private static void p35() {
        Postroom x = new Postroom();
        due("ask", x.ask(0, 7, 999, true), 1);
        due("ask", x.ask(0, 0, 0, false), 2);
        due("ask", x.ask(0, 0, 0, false), 3);
        fails("folder", INDEX, () -> x.ask(4, 8, 0, true));
        fails("folder", INDEX, () -> x.ask(-1, 0, 0, true));
        fails("kind", ARGUMENT, () -> x.ask(0, 8, 0, true));
        fails("kind", ARGUMENT, () -> x.ask(0, -1, 0, true));
        fails("value", ARGUMENT, () -> x.ask(0, 0, 1000, true));
        fails("value", ARGUMENT, () -> x.ask(0, 0, -1, true));
        due("ask", x.ask(0, 0, 0, false), 4);
        fails("4 conditions", STATE, () -> x.ask(0, 0, 0, false));
        fails("4 conditions, and a kind", ARGUMENT, () -> x.ask(0, 8, 0, false));
        due("another one", x.ask(3, 1, 1, false), 1);
    }

    private static void p36() {
        Postroom x = new Postroom();
        x.ask(2, 0, 0, false);
        x.ask(2, 1, 0, false);
        x.ask(1, 1, 0, false);
        due("unask", x.unask(2), 2);
        due("unask", x.unask(2), 0);
        due("question", x.question(2), "");
        due("another one", x.question(1), "1:0");
        fails("folder", INDEX, () -> x.unask(4));
        fails("folder", INDEX, () -> x.unask(-1));
    }

    private static void p37() {
        Postroom x = new Postroom();
        due("question", x.question(0), "");
        x.ask(0, 0, 2, false);
        x.ask(0, 5, 1, true);
        x.ask(0, 6, 999, false);
        x.ask(0, 2, 10, true);
        due("question", x.question(0), "0:2&!5:1&6:999&!2:10");
        fails("folder", INDEX, () -> x.question(4));
        fails("folder", INDEX, () -> x.question(-1));
    }

    /** What a folder with one condition holds of store 0. */
    private static void asked(Postroom x, int kind, int value, String with, String without) {
        x.unask(0);
        x.ask(0, kind, value, false);
        due("holds " + x.question(0), x.holds(0, 0), with);
        x.unask(0);
        x.ask(0, kind, value, true);
        due("holds " + x.question(0), x.holds(0, 0), without);
    }

    private static void p38() {
        Postroom x = new Postroom();
        post(x, 0, "F:a@b|I:1|S:a:h|R:4 5|T:c@d");
        x.tick(2);
        post(x, 0, "F:b@hb|I:2|R:1|T::c@a,(c)d@b;");
        post(x, 0, "F:a@9|I:3|S:b");
        post(x, 1, "F:a@a|I:4");
        asked(x, 0, 1, "0", "1 2");
        asked(x, 0, 7, "1", "0 2");
        asked(x, 0, 8, "", "0 1 2");
        asked(x, 1, 0, "0", "1 2");
        asked(x, 1, 1, "2", "0 1");
        asked(x, 1, 9, "", "0 1 2");
        asked(x, 2, 2, "0 1", "2");
        asked(x, 2, 3, "", "0 1 2");
        asked(x, 3, 5, "0", "1 2");
        asked(x, 3, 1, "1", "0 2");
        asked(x, 4, 2, "0 1", "2");
        asked(x, 4, 3, "1", "0 2");
        asked(x, 4, 0, "", "0 1 2");
        asked(x, 4, 10, "", "0 1 2");
        x.flag(0, 2, 3, true);
        asked(x, 5, 3, "2", "0 1");
        asked(x, 5, 4, "", "0 1 2");
        asked(x, 5, 999, "", "0 1 2");
        asked(x, 6, 2, "1 2", "0");
        asked(x, 6, 3, "", "0 1 2");
        asked(x, 6, 0, "0 1 2", "");
        asked(x, 7, 1, "0 1", "2");
        asked(x, 7, 2, "2", "0 1");
        asked(x, 7, 3, "", "0 1 2");
        asked(x, 7, 999, "", "0 1 2");
        x.unask(0);
        due("no question", x.holds(0, 0), "0 1 2");
        x.ask(0, 6, 0, false);
        x.ask(0, 7, 0, false);
        x.ask(0, 5, 3, true);
        x.ask(0, 4, 3, true);
        due("all of these", x.holds(0, 0), "0");
        due("the other store", x.holds(1, 1), "3");
        fails("store", INDEX, () -> x.holds(2, 0));
        fails("store", INDEX, () -> x.holds(-1, 0));
        fails("folder", INDEX, () -> x.holds(0, 4));
        fails("folder", INDEX, () -> x.holds(0, -1));
    }

    private static void p39() {
        Postroom x = new Postroom();
        due("member", x.member(0, false, 15, true), 1);
        due("member", x.member(0, false, 15, true), 1);
        due("member", x.member(0, true, 3, true), 2);
        due("member", x.member(0, false, 3, true), 3);
        due("itself", x.member(0, true, 0, true), 4);
        due("no member", x.member(0, false, 15, false), 3);
        due("no member", x.member(0, true, 2, false), 3);
        due("another list", x.member(1, true, 2, false), 0);
        fails("list", INDEX, () -> x.member(4, false, 16, true));
        fails("list", INDEX, () -> x.member(-1, false, 0, true));
        fails("number", ARGUMENT, () -> x.member(0, false, 16, true));
        fails("number", ARGUMENT, () -> x.member(0, false, -1, true));
        fails("number of a list", ARGUMENT, () -> x.member(0, true, 4, true));
        fails("number of a list", ARGUMENT, () -> x.member(0, true, -1, true));
    }

    private static void p40() {
        Postroom x = new Postroom();
        for (int i = 0; i < 4; i++) {
            x.member(i, false, 12 + i, true);
        }
        due("reached", x.reached(3), 1 << 15);
        x.member(0, true, 3, true);
        x.member(3, true, 2, true);
        x.member(2, true, 1, true);
        due("reached", x.reached(0), 15 << 12);
        due("reached", x.reached(2), 3 << 13);
        x.member(1, true, 0, true);
        due("in a ring", x.reached(1), 15 << 12);
        x.member(1, false, 0, true);
        due("in a ring", x.reached(3), (15 << 12) + 1);
        due("nothing", new Postroom().reached(0), 0);
        fails("list", INDEX, () -> x.reached(4));
        fails("list", INDEX, () -> x.reached(-1));
    }

    private static void p41() {
        Postroom x = withLetters(2);
        due("an empty list", x.send(0, 0), 0);
        for (int i = 0; i < 9; i++) {
            x.member(0, false, 15 - i, true);
        }
        x.member(1, false, 0, true);
        x.member(1, true, 0, true);
        x.tick(4);
        due("send", x.send(1, 1), 10);
        due("send", x.send(0, 0), 9);
        due("by rising numbers", x.ofOut(0, 1), 0);
        due("by rising numbers", x.ofOut(1, 1), 7);
        due("by rising numbers", x.ofOut(9, 1), 15);
        due("behind the row", x.ofOut(10, 0), 0);
        due("without tries", x.ofOut(10, 2), 0);
        due("due now", x.ofOut(10, 3), 4);
        due("more than 20", x.send(0, 0), -4);
        due("nothing has changed", x.house(3), 19);
        due("an empty list", x.send(0, 3), 0);
        x.member(3, false, 1, true);
        due("20", x.send(0, 3), 1);
        fails("letter", INDEX, () -> x.send(2, 0));
        fails("letter", INDEX, () -> x.send(-1, 0));
        fails("list", INDEX, () -> x.send(0, 4));
        fails("list", INDEX, () -> x.send(0, -1));
    }

    private static void p42() {
        Postroom x = new Postroom();
        due("down", x.down(15, true), 0);
        due("down", x.down(15, true), 1);
        due("another one", x.down(0, false), 0);
        due("down", x.down(15, false), 1);
        due("down", x.down(15, false), 0);
        fails("address", INDEX, () -> x.down(16, true));
        fails("address", INDEX, () -> x.down(-1, true));
    }

    private static void p43() {
        Postroom x = withLetters(3);
        x.member(0, false, 1, true);
        x.member(0, false, 2, true);
        x.member(0, false, 3, true);
        x.down(1, true);
        x.down(3, true);
        x.send(0, 0);
        due("one is not down", x.tick(1), 1);
        x.send(1, 0);
        due("tries", x.ofOut(0, 2), 1);
        due("due", x.ofOut(0, 3), 3);
        due("behind them", x.ofOut(2, 0), 1);
        due("minute 2", x.tick(1), 1);
        due("to the end of the row", x.ofOut(0, 0) + "" + x.ofOut(1, 0) + x.ofOut(2, 0) + x.ofOut(3, 0), "0011");
        due("due", x.ofOut(2, 3), 4);
        due("minute 3", x.tick(1), 0);
        due("to the end of the row", x.ofOut(0, 0) + "" + x.ofOut(1, 0) + x.ofOut(2, 0) + x.ofOut(3, 0), "1100");
        due("due 4 minutes later", x.ofOut(2, 3), 7);
        x.down(3, false);
        due("to minute 8", x.tick(5), 2);
        due("tries", x.ofOut(0, 2), 3);
        due("due 8 minutes later", x.ofOut(0, 3), 15);
        due("bounced", x.tick(6), 0);
        due("not yet", x.house(5), 0);
        due("minute 15", x.tick(1), 0);
        due("bounced", x.house(5), 1);
        due("arrived", x.house(4), 4);
        due("the last one", x.tick(60), 0);
        due("bounced", x.house(5), 2);
        fails("minutes", ARGUMENT, () -> x.tick(0));
        fails("minutes", ARGUMENT, () -> x.tick(61));
        fails("minutes", ARGUMENT, () -> x.tick(-1));
        Postroom y = new Postroom();
        for (int i = 0; i < 166; i++) {
            y.tick(60);
        }
        due("clock", y.house(1), 9960);
        fails("above 9999", STATE, () -> y.tick(40));
        fails("61", ARGUMENT, () -> y.tick(61));
        y.tick(39);
        due("9999", y.house(1), 9999);
        fails("above 9999", STATE, () -> y.tick(1));
    }

    private static void p44() {
        Postroom x = withLetters(2);
        fails("none there", INDEX, () -> x.ofOut(0, 0));
        x.tick(2);
        x.member(0, false, 9, true);
        x.send(1, 0);
        x.down(9, true);
        x.tick(1);
        int[] want = {1, 9, 1, 5};
        for (int what = 0; what <= 3; what++) {
            due("ofOut(0, " + what + ")", x.ofOut(0, what), want[what]);
        }
        fails("place", INDEX, () -> x.ofOut(1, 4));
        fails("place", INDEX, () -> x.ofOut(-1, 0));
        fails("what", ARGUMENT, () -> x.ofOut(0, 4));
        fails("what", ARGUMENT, () -> x.ofOut(0, -1));
    }

    private static void p45() {
        Postroom x = new Postroom();
        due("knock", x.knock(), 1);
        due("knock", x.knock(), 2);
        due("knocks", x.house(7), 2);
    }

    private static void p46() {
        Postroom x = withLetters(2);
        x.rule(0, 0, 0, false);
        x.ask(0, 0, 0, false);
        x.ask(3, 0, 0, false);
        x.ask(3, 0, 0, false);
        x.knock();
        x.member(0, false, 0, true);
        x.member(0, false, 1, true);
        x.member(0, false, 2, true);
        x.down(1, true);
        x.send(0, 0);
        x.tick(20);
        x.send(1, 0);
        int[] want = {2, 20, 1, 3, 2, 1, 9, 1, 3};
        for (int what = 0; what <= 8; what++) {
            due("house(" + what + ")", x.house(what), want[what]);
        }
        x.tick(60);
        due("bounced", x.house(5), 2);
        fails("what", ARGUMENT, () -> x.house(9));
        fails("what", ARGUMENT, () -> x.house(-1));
    }

    private static void p47() {
        Postroom x = new Postroom();
        due("sound at first", x.isSound(), true);
        post(x, 0, RICH);
        post(x, 1, "F:a@a|I:90|R:77");
        x.rule(2, 0, 0, false);
        x.bring();
        type(x, SIGNS + "|>>=7c");
        due("sound", x.isSound(), true);
        x.quota(0, 100);
        due("sound", x.isSound(), true);
    }

    /** The checksum, put together anew from what the other calls answer. */
    private static long summed(Postroom x) {
        Sum sum = new Sum();
        for (int what = 0; what <= 8; what++) {
            sum.add(x.house(what));
        }
        sum.add(x.fault());
        sum.add(x.addresses());
        for (int i = 0; i < x.house(0); i++) {
            for (int what = 0; what <= 9; what++) {
                sum.add(x.ofLetter(i, what));
            }
            for (int what = 0; what <= 5; what++) {
                sum.add(x.text(i, what).length());
            }
            for (int nth = 0; nth < x.ofLetter(i, 3); nth++) {
                for (int what = 0; what <= 4; what++) {
                    sum.add(x.leaf(i, nth, what));
                }
            }
        }
        for (int store = 0; store < 2; store++) {
            addStore(x, store, sum);
        }
        for (int i = 0; i < 4; i++) {
            sum.add(x.question(i).length());
        }
        for (int i = 0; i < 4; i++) {
            sum.add(x.reached(i));
        }
        for (int i = 0; i < x.house(3); i++) {
            for (int what = 0; what <= 3; what++) {
                sum.add(x.ofOut(i, what));
            }
        }
        sum.add(x.isSound() ? 1 : 0);
        return sum.d;
    }

    private static void addStore(Postroom x, int store, Sum sum) {
        for (int what = 0; what <= 10; what++) {
            sum.add(x.ofStore(store, what));
        }
        for (int i = 0; i < x.house(0); i++) {
            for (int what = 0; what <= 6; what++) {
                sum.add(x.held(store, i, what));
            }
            sum.add(x.thread(store, i).length());
        }
        for (int i = 0; i < 4; i++) {
            sum.add(x.holds(store, i).length());
        }
        for (int i = 0; i < 4; i++) {
            sum.add(x.box(store, i).length());
        }
        sum.add(x.since(store, 3).length());
    }

    private static final class Sum {
        private long d = 5802;

        void add(long v) {
            d = d * 31 + v;
        }
    }

    private static void p48() {
        Postroom x = new Postroom();
        due("digest at first", x.digest(), -835419991738116005L);
        x.quota(1, 700);
        post(x, 0, RICH);
        post(x, 1, "F:a@a|I:90|R:77");
        post(x, 1, RICH);
        post(x, 0, "F:a@a|I:91|K:d1||--1|--1|K:c||=3d|--1-");
        x.rule(2, 0, 0, false);
        x.bring();
        x.ask(0, 5, 0, true);
        x.member(0, false, 3, true);
        x.member(0, false, 4, true);
        x.down(4, true);
        x.send(1, 0);
        x.tick(1);
        due("digest", x.digest(), summed(x));
        type(x, "a@b,c@d");
        due("digest", x.digest(), summed(x));
        due("digest once more", x.digest(), x.digest());
    }
}

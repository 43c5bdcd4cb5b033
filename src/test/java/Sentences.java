import java.util.function.Supplier;

/** What the tests of the document's sentences have in common: how to type, and to hold an answer against its due. */
abstract class Sentences {
    static final String SIGNS = "abcdefgh FTSIRKX:;,<>@()=?_-0123456789|";
    static final Class<?> STATE = IllegalStateException.class;
    static final Class<?> ARGUMENT = IllegalArgumentException.class;
    static final Class<?> INDEX = IndexOutOfBoundsException.class;
    static final int NONE = -1;
    static final int LOWEST = Integer.MIN_VALUE;
    static final int HIGHEST = Integer.MAX_VALUE;
    static final int[] NO_STORES = {LOWEST, -1, 2, HIGHEST};

    private final Book book;

    Sentences(Book book) {
        this.book = book;
    }

    interface Call {
        Object on(Postroom x);
    }

    final void test(int promise, String sentence, Runnable test) {
        book.test(promise, sentence, test);
    }

    final void due(String call, Object got, Object want) {
        book.due(call, got, want);
    }

    private static Object outcome(Postroom x, Call call) {
        try {
            return call.on(x);
        } catch (RuntimeException e) {
            return e.getClass();
        }
    }

    /** The call answers or throws that, and then the room is like another one in which it was not made. */
    final void refused(Supplier<Postroom> made, String what, Call call, Object want) {
        Postroom x = furnished(made.get());
        due(what, outcome(x, call), want);
        due("the room after " + what, Probe.of(x), Probe.of(furnished(made.get())));
    }

    /** The room with something of all that no call tells, so that a change of it would be seen. */
    private static Postroom furnished(Postroom x) {
        x.down(3, true);
        x.down(9, true);
        x.member(2, false, 9, true);
        x.member(2, true, 1, true);
        x.ask(3, 5, 0, true);
        if (x.house(2) < 6) {
            x.rule(2, 0, 3, false);
        }
        x.knock();
        return x;
    }

    /** A busy room refuses the call. */
    final void refused(String what, Call call, Object want) {
        refused(Sentences::busy, what, call, want);
    }

    /** Types a text in the place of what is typed. */
    static Postroom type(Postroom x, String text) {
        x.say(40, NONE, NONE, NONE, NONE, NONE);
        for (int i = 0; i < text.length(); i += 6) {
            x.say(code(text, i), code(text, i + 1), code(text, i + 2),
                    code(text, i + 3), code(text, i + 4), code(text, i + 5));
        }
        return x;
    }

    private static int code(String text, int place) {
        if (place >= text.length()) {
            return NONE;
        }
        int code = SIGNS.indexOf(text.charAt(place));
        if (code < 0) {
            throw new IllegalArgumentException("no sign: " + text.charAt(place));
        }
        return code;
    }

    static Postroom typing(String text) {
        return type(new Postroom(), text);
    }

    static int post(Postroom x, int store, String text) {
        return type(x, text).post(store);
    }

    /** A room with these letters in store 0. */
    static Postroom holding(String... texts) {
        Postroom x = new Postroom();
        for (String text : texts) {
            post(x, 0, text);
        }
        return x;
    }

    static String times(int count, String text) {
        return text.repeat(count);
    }

    /** A letter with that name and so many signs, at least 20. */
    static String sized(int name, int signs) {
        String head = "F:a@a|I:" + name + "||";
        return head + times(signs - head.length(), "a");
    }

    /** A room with 30 letters of 25 to 27 signs, all of them in store 0; what is typed is the last one. */
    static Postroom full() {
        Postroom x = new Postroom();
        x.quota(0, 2000);
        for (int name = 0; name < 30; name++) {
            x.build(0, name, 0, NONE, 0, false);
            x.post(0);
        }
        return x;
    }

    /** A room in which there is something of everything. */
    static Postroom busy() {
        Postroom x = new Postroom();
        x.rule(0, 1, 0, false);
        x.rule(2, 3, 3, true);
        x.rule(4, 0, 2, false);
        x.build(0, 5, 0, NONE, 0, false);
        x.post(0);
        x.tick(2);
        x.answer(0, 5, 9, false);
        x.post(0);
        x.post(1);
        x.build(6, 12, 7, 5, 6, true);
        x.post(1);
        x.unrule();
        x.flag(0, 0, 0, true);
        x.flag(0, 1, 2, true);
        x.flag(1, 2, 3, true);
        x.flag(1, 1, 1, true);
        x.quota(1, 500);
        x.ask(0, 5, 0, true);
        x.ask(0, 2, 3, false);
        x.ask(2, 7, 1, false);
        x.member(0, false, 3, true);
        x.member(0, false, 15, true);
        x.member(1, true, 0, true);
        x.member(3, true, 3, true);
        x.down(3, true);
        x.down(9, true);
        x.send(2, 0);
        x.tick(1);
        x.send(0, 1);
        x.knock();
        return type(x, "F:c@d|I:77|X:?|| a|>b");
    }
}

/** The sentences of the description, sections 4 and 5: letters in stores, lists, and what goes out. */
final class HoldingSentences extends Sentences {
    private static final int ALL = Book.DESCRIPTION;

    HoldingSentences(Book book) {
        super(book);
    }

    void testAll() {
        letters();
        places();
        counts();
        thrownOut();
        parentsInR();
        parentsByBase();
        parentsThatLeave();
        threads();
        fitsTexts();
        fitsStores();
        rules();
        folders();
        lists();
        envelopes();
        tries();
        exceptions();
    }

    private void letters() {
        test(ALL, "LETTERS are numbered from 0 as they first come into a STORE, at most 30 ever; none is forgotten.", () -> {
            Postroom x = new Postroom();
            due("the first", post(x, 1, "F:a@a|I:9"), 0);
            due("the second", post(x, 0, "F:a@a|I:3"), 1);
            due("the first, which comes again", post(x, 0, "F:a@a|I:9"), 0);
            x.expire(0, 0);
            x.expire(1, 0);
            due("the third", post(x, 0, "F:a@a|I:1"), 2);
            due("letters", x.house(0), 3);
            due("none is forgotten", x.text(1, 0), "F:a@a|I:3");
            due("30", full().house(0), 30);
            refused(() -> type(full(), "F:a@a|I:30"), "31", y -> y.post(1), STATE);
        });
        test(ALL, "Each has a text, a NAME (its I; no two have the same one), and a TIME (CLOCK as it came first).", () -> {
            Postroom x = holding("F:a@a|I:9");
            x.tick(5);
            post(x, 0, "F:a@a|I:3");
            due("another text with the same name", type(x, "F:a@a|I:9|").post(0), -5);
            x.tick(6);
            due("the first one into the other store", post(x, 1, "F:a@a|I:9"), 0);
            due("texts", x.text(0, 0) + " " + x.text(1, 0), "F:a@a|I:9 F:a@a|I:3");
            due("names", x.ofLetter(0, 0) + " " + x.ofLetter(1, 0), "9 3");
            due("times", x.ofLetter(0, 4) + " " + x.ofLetter(1, 4), "0 5");
        });
        test(ALL, "CLOCK is 0 at first.", () -> due("clock", new Postroom().house(1), 0));
    }

    private void places() {
        test(ALL, "There are two STORES, 0 and 1.", () -> {
            due("0", new Postroom().ofStore(0, 0), 0);
            due("1", new Postroom().ofStore(1, 0), 0);
            refused("2", x -> x.ofStore(2, 0), INDEX);
        });
        test(ALL, "A LETTER that is HELD there has a PLACE there (1, 2, ... as they come; no PLACE comes again)", () -> {
            Postroom x = holding("F:a@a|I:9", "F:a@a|I:3", "F:a@a|I:5");
            due("places", x.held(0, 0, 0) + " " + x.held(0, 1, 0) + " " + x.held(0, 2, 0), "1 2 3");
            x.expire(0, 0);
            due("it comes again", x.post(0), 2);
            due("the next place", x.held(0, 2, 0), 4);
            due("places that were told", x.ofStore(0, 4), 4);
            due("the first place of the other store", x.post(1) + " " + x.held(1, 2, 0), "2 1");
        });
        test(ALL, "FLAGS: 0 SEEN, 1 DONE, 2 MARKED, 3 GONE (none as it comes), and a STAMP.", () -> {
            Postroom x = holding("F:a@a|I:9");
            due("none", x.held(0, 0, 1), 0);
            for (int which = 0; which < 4; which++) {
                x.flag(0, 0, which, true);
                due("flag " + which, x.ofStore(0, 6 + which), 1);
            }
            x.expunge(0);
            x.post(0);
            due("none as it comes again", x.held(0, 0, 1), 0);
        });
        test(ALL, "SIGNS of a STORE: those of all it holds; QUOTA: 600 at first.", () -> {
            Postroom x = holding(sized(1, 100), sized(2, 250), sized(3, 250));
            due("signs", x.ofStore(0, 1), 600);
            due("the quota", x.ofStore(0, 2) + " " + x.ofStore(1, 2), "600 600");
            due("held", x.ofStore(0, 0), 3);
            x.flag(0, 1, 3, true);
            x.expunge(0);
            due("signs", x.ofStore(0, 1), 350);
            due("signs of the other store", x.ofStore(1, 1), 0);
            post(x, 0, sized(4, 251));
            due("601 are too many", x.held(0, 0, 0), -9);
        });
    }

    private void counts() {
        test(ALL, "COUNT of a STORE (0 at first) is one more each time a LETTER comes, leaves, or has other FLAGS than before", () -> {
            Postroom x = new Postroom();
            due("at first", x.ofStore(0, 3), 0);
            post(x, 0, "F:a@a|I:9");
            due("it comes", x.ofStore(0, 3), 1);
            x.flag(0, 0, 1, true);
            due("other flags", x.ofStore(0, 3), 2);
            x.flag(0, 0, 1, true);
            due("the same flags", x.ofStore(0, 3), 2);
            x.flag(0, 0, 1, false);
            due("other flags", x.ofStore(0, 3), 3);
            x.flag(0, 0, 0, false);
            due("the same flags", x.ofStore(0, 3), 3);
            x.bring();
            due("it comes into the other store", x.ofStore(1, 3), 1);
            x.flag(0, 0, 3, true);
            x.expunge(0);
            due("it leaves", x.ofStore(0, 3), 5);
            x.expire(1, 0);
            due("it leaves", x.ofStore(1, 3), 2);
            post(x, 0, sized(1, 300));
            post(x, 0, sized(2, 300));
            due("two come", x.ofStore(0, 3), 7);
            post(x, 0, sized(3, 100));
            due("one comes, and one is thrown out", x.ofStore(0, 3), 9);
            x.quota(0, 100);
            due("one is thrown out", x.ofStore(0, 3), 10);
            x.rerun(0);
            x.tick(1);
            due("else it stays", x.ofStore(0, 3), 10);
        });
        test(ALL, "STAMP is COUNT, with that one more, as it came, or as its FLAGS became others last.", () -> {
            Postroom x = holding("F:a@a|I:9", "F:a@a|I:3");
            due("as they came", x.held(0, 0, 2) + " " + x.held(0, 1, 2), "1 2");
            x.flag(0, 0, 2, true);
            due("other flags", x.held(0, 0, 2) + " " + x.held(0, 1, 2), "3 2");
            x.flag(0, 1, 2, true);
            x.flag(0, 0, 2, true);
            due("the same flags", x.held(0, 0, 2) + " " + x.held(0, 1, 2), "3 4");
            x.flag(0, 0, 2, false);
            x.flag(0, 0, 3, true);
            due("last", x.held(0, 0, 2), 6);
            x.expunge(0);
            post(x, 0, "F:a@a|I:9");
            due("as it came again", x.held(0, 0, 2), 8);
        });
    }

    /** The letters of a store in the order in which they are thrown out, until one is left; each has these flags. */
    private void thrown(String want, int... flags) {
        Postroom x = new Postroom();
        for (int i = 0; i < flags.length; i++) {
            post(x, 0, sized(i, 100));
            for (int which = 0; which < 4; which++) {
                x.flag(0, i, which, (flags[i] >> which & 1) == 1);
            }
        }
        StringBuilder out = new StringBuilder();
        for (int left = flags.length - 1; left > 0; left--) {
            String before = x.holds(0, 0);
            due("one is thrown out", x.quota(0, 100 * left), 1);
            for (String letter : before.split(" ")) {
                out.append(x.held(0, Integer.parseInt(letter), 0) < 0 ? letter : "");
            }
        }
        due("in this order", out.toString(), want);
    }

    private void thrownOut() {
        test(ALL, "To THROW one out: of those that are GONE", () -> thrown("1230", 0, 8, 15, 9, 0));
        test(ALL, "without these of those that are SEEN and not MARKED", () -> thrown("23504", 0, 5, 1, 3, 2, 1));
        test(ALL, "without these of those not MARKED", () -> thrown("1302", 4, 2, 6, 0, 5));
        test(ALL, "without these of all", () -> thrown("012", 5, 4, 6, 7));
        test(ALL, "always that with the smallest PLACE.", () -> {
            Postroom x = holding(sized(1, 100), sized(2, 100), sized(3, 100));
            x.flag(0, 0, 3, true);
            x.flag(0, 1, 3, true);
            x.expunge(0);
            type(x, sized(2, 100)).post(0);
            type(x, sized(1, 100)).post(0);
            due("places", x.held(0, 0, 0) + " " + x.held(0, 1, 0) + " " + x.held(0, 2, 0), "5 4 3");
            x.quota(0, 200);
            due("the third place", x.holds(0, 0), "0 1");
            x.quota(0, 100);
            due("the fourth place", x.holds(0, 0), "0");
        });
    }

    private void parent(String what, int want, String... texts) {
        due(what, holding(texts).held(0, texts.length - 1, 3), want);
    }

    private void parentsInR() {
        test(ALL, "PARENT of a LETTER in a STORE: the last one in R that is the NAME of one HELD there and is smaller than its own NAME", () -> {
            parent("no R", -1, "F:a@a|I:1", "F:a@a|I:5");
            parent("one", 0, "F:a@a|I:1", "F:a@a|I:5|R:1");
            parent("the last one", 1, "F:a@a|I:1", "F:a@a|I:2", "F:a@a|I:5|R:1 2");
            parent("the last one", 0, "F:a@a|I:1", "F:a@a|I:2", "F:a@a|I:5|R:2 1");
            parent("one that is no name", 0, "F:a@a|I:1", "F:a@a|I:5|R:1 3");
            parent("none that is a name", -1, "F:a@a|I:1", "F:a@a|I:5|R:3 0");
            parent("just smaller", 0, "F:a@a|I:4", "F:a@a|I:5|R:4");
            parent("its own name", -1, "F:a@a|I:4", "F:a@a|I:5|R:5");
            parent("its own name behind another one", 0, "F:a@a|I:4", "F:a@a|I:5|R:4 5");
            parent("a larger name", -1, "F:a@a|I:6", "F:a@a|I:5|R:6");
            parent("a larger name behind another one", 0, "F:a@a|I:4", "F:a@a|I:6", "F:a@a|I:5|R:4 6");
            parent("name 0", 0, "F:a@a|I:0", "F:a@a|I:5|R:0");
            Postroom x = holding("F:a@a|I:1", "F:a@a|I:2", "F:a@a|I:5|R:1 2");
            x.post(1);
            due("in the other store", x.held(1, 2, 3), NONE);
            x.flag(0, 1, 3, true);
            x.expunge(0);
            due("the last one left", x.held(0, 2, 3), 0);
            post(x, 0, "F:a@a|I:2");
            due("it came again", x.held(0, 2, 3), 1);
        });
        test(ALL, "without one, if it ANSWERS and its BASE is not empty", () -> {
            parent("one in R", 1, "F:a@a|I:1|S:b", "F:a@a|I:2", "F:a@a|I:5|R:2|S:a:b");
            parent("none in R", 0, "F:a@a|I:1|S:b", "F:a@a|I:2", "F:a@a|I:5|R:3|S:a:b");
            parent("a larger one in R", 0, "F:a@a|I:1|S:b", "F:a@a|I:6", "F:a@a|I:5|R:6|S:a:b");
            parent("it does not answer", -1, "F:a@a|I:1|S:b", "F:a@a|I:5|S:b");
            parent("passed on", -1, "F:a@a|I:1|S:b", "F:a@a|I:5|S:f:b");
            parent("an answer that was passed on", -1, "F:a@a|I:1|S:b", "F:a@a|I:5|S:f:a:b");
            parent("no base", -1, "F:a@a|I:1", "F:a@a|I:5|S:a:");
            parent("no base", -1, "F:a@a|I:1|S:a:", "F:a@a|I:5|S:a:f:");
        });
    }

    private void parentsByBase() {
        test(ALL, "of the others HELD there with that BASE that with the smallest NAME, if that is smaller than its own; otherwise NONE.", () -> {
            parent("one", 0, "F:a@a|I:1|S:b", "F:a@a|I:5|S:a:b");
            parent("that base", 0, "F:a@a|I:1|S:a:f: b", "F:a@a|I:5|S:a:a:b");
            parent("another base", -1, "F:a@a|I:1|S:b c", "F:a@a|I:5|S:a:b");
            parent("another base", -1, "F:a@a|I:1|S:b", "F:a@a|I:5|S:a:b c");
            parent("another base", -1, "F:a@a|I:1|S:c", "F:a@a|I:5|S:a:b");
            parent("the smallest", 1, "F:a@a|I:4|S:b", "F:a@a|I:2|S:b", "F:a@a|I:3|S:b", "F:a@a|I:5|S:a:b");
            parent("just smaller", 0, "F:a@a|I:4|S:b", "F:a@a|I:5|S:a:b");
            parent("the smallest is larger", -1, "F:a@a|I:6|S:b", "F:a@a|I:5|S:a:b");
            parent("the smallest is larger", -1, "F:a@a|I:7|S:b", "F:a@a|I:6|S:b", "F:a@a|I:5|S:a:b");
            parent("itself alone", -1, "F:a@a|I:5|S:a:b");
            parent("an answer", 0, "F:a@a|I:1|S:a:b", "F:a@a|I:5|S:a:b");
            Postroom x = holding("F:a@a|I:1|S:b", "F:a@a|I:2|S:f:b", "F:a@a|I:5|S:a:b");
            x.post(1);
            due("in the other store", x.held(1, 2, 3), NONE);
            x.flag(0, 0, 3, true);
            x.expunge(0);
            due("the smallest left", x.held(0, 2, 3), 1);
            x.flag(0, 1, 3, true);
            x.expunge(0);
            due("all left", x.held(0, 2, 3), NONE);
            Postroom y = new Postroom();
            y.quota(0, 2000);
            for (int i = 0; i < 30; i++) {
                post(y, 0, "F:a@a|I:" + i + (i == 20 ? "|S:a:b" : "|S:c"));
            }
            due("none of 29", y.held(0, 20, 3), NONE);
            x.flag(0, 2, 3, true);
            x.expunge(0);
            due("one that came first", post(x, 0, "F:a@a|I:9|S:a:b"), 3);
            post(x, 0, "F:a@a|I:5|S:a:b");
            due("by that base", x.held(0, 3, 3), 2);
        });
    }

    /** A letter whose parent and whose parent's parent are held with it. */
    private static Postroom family() {
        Postroom x = new Postroom();
        post(x, 0, sized(1, 150));
        post(x, 0, "F:a@a|I:2|R:1||" + times(150, "a"));
        post(x, 0, "F:a@a|I:3|R:1 2||" + times(100, "a"));
        return x;
    }

    private void parentsThatLeave() {
        test(ALL, "that is the NAME of one HELD there", () -> {
            Postroom x = family();
            due("at first", x.thread(0, 2), "0(1(2))");
            x.flag(0, 1, 3, true);
            due("one that is gone is held", x.thread(0, 2), "0(1(2))");
            x.expunge(0);
            due("expunged", x.thread(0, 2), "0(2)");
            x = family();
            x.flag(0, 0, 2, true);
            x.flag(0, 2, 2, true);
            x.expire(0, 0);
            due("expired", x.thread(0, 2), "0(2)");
            x = family();
            x.flag(0, 1, 3, true);
            x.quota(0, 400);
            due("thrown out for a quota", x.thread(0, 2), "0(2)");
            x = family();
            x.flag(0, 1, 3, true);
            post(x, 0, sized(4, 250));
            due("thrown out for another one", x.thread(0, 2), "0(2)");
            x = family();
            x.post(1);
            due("in the other store", x.thread(1, 2), "2");
            type(x, sized(1, 150)).post(1);
            due("one came", x.thread(1, 2), "0(2)");
            x.bring();
            due("brought", x.thread(1, 2), "0(1(2))");
            x = new Postroom();
            post(x, 0, "F:a@a|I:3|R:1 2");
            post(x, 1, "F:a@a|I:2|R:1");
            post(x, 1, "F:a@a|I:1");
            x.bring();
            due("brought into 0", x.thread(0, 0), "2(1(0))");
            due("brought into 1", x.thread(1, 0), "2(1(0))");
            due("from how many one comes to it", x.held(0, 2, 6) + " " + x.held(0, 1, 6) + " " + x.held(0, 0, 6), "2 1 0");
        });
    }

    private void threads() {
        test(ALL, "ROOT of a LETTER: the one without PARENT to which one comes from it; those with the same ROOT are a THREAD.", () -> {
            Postroom x = holding("F:a@a|I:1", "F:a@a|I:2|R:1", "F:a@a|I:3|R:2", "F:a@a|I:4", "F:a@a|I:5|R:3|S:b", "F:a@a|I:6|S:a:b");
            int[] roots = {0, 0, 0, 3, 0, 0};
            for (int i = 0; i < 6; i++) {
                due("root of " + i, x.held(0, i, 4), roots[i]);
            }
            due("threads", x.ofStore(0, 5), 2);
            due("a thread", x.thread(0, 5), "0(1(2(4(5))))");
            due("alone", x.thread(0, 3), "3");
            x.flag(0, 1, 3, true);
            x.expunge(0);
            due("threads", x.ofStore(0, 5), 3);
            due("root of 5", x.held(0, 5, 4), 2);
            due("none", new Postroom().ofStore(0, 5), 0);
        });
    }

    /** What a folder holds of store 0 that has one condition, and with a NOT. */
    private void fits(Postroom x, int kind, int value, String with, String without) {
        x.unask(0);
        x.ask(0, kind, value, false);
        due("holds " + x.question(0), x.holds(0, 0), with);
        x.unask(0);
        x.ask(0, kind, value, true);
        due("holds " + x.question(0), x.holds(0, 0), without);
    }

    private void fitsTexts() {
        test(ALL, "0 the HOST of F begins with the letter value of \"abcdefgh\"", () -> {
            Postroom x = holding("F:h@a|I:1", "F:ba@hb|I:2", "F:c <d@b>|I:3", "F:a@0|I:4");
            fits(x, 0, 0, "0", "1 2 3");
            fits(x, 0, 7, "1", "0 2 3");
            fits(x, 0, 1, "2", "0 1 3");
            fits(x, 0, 3, "", "0 1 2 3");
        });
        test(ALL, "1 its SUBJECT has that letter", () -> {
            Postroom x = holding("F:a@a|I:1|S:b a", "F:a@a|I:2|S:Fh0", "F:a@a|I:3", "F:a@a|I:4|S:a:|X:h");
            fits(x, 1, 0, "0 3", "1 2");
            fits(x, 1, 1, "0", "1 2 3");
            fits(x, 1, 7, "1", "0 2 3");
            fits(x, 1, 2, "", "0 1 2 3");
        });
        test(ALL, "2 it has 10 times value SIGNS or more", () -> {
            Postroom x = holding(sized(1, 20), sized(2, 19), sized(3, 300), sized(4, 21));
            fits(x, 2, 0, "0 1 2 3", "");
            fits(x, 2, 1, "0 1 2 3", "");
            fits(x, 2, 2, "0 2 3", "1");
            fits(x, 2, 3, "2", "0 1 3");
            fits(x, 2, 30, "2", "0 1 3");
            fits(x, 2, 31, "", "0 1 2 3");
            fits(x, 2, 999, "", "0 1 2 3");
        });
        test(ALL, "3 value is in R", () -> {
            Postroom x = holding("F:a@a|I:1|R:0 5", "F:a@a|I:2|R:999", "F:a@a|I:3|R:55 5", "F:a@a|I:4");
            fits(x, 3, 0, "0", "1 2 3");
            fits(x, 3, 5, "0 2", "1 3");
            fits(x, 3, 999, "1", "0 2 3");
            fits(x, 3, 1, "", "0 1 2 3");
        });
        test(ALL, "4 an ADDRESS of T begins with that letter", () -> {
            Postroom x = holding("F:a@a|I:1|T:cd@b", "F:a@a|I:2|T:a <b@b>,h:h@a;", "F:a@a|I:3|T:", "F:a@a|I:4|T:4@c,0c@c");
            fits(x, 4, 2, "0", "1 2 3");
            fits(x, 4, 3, "", "0 1 2 3");
            fits(x, 4, 1, "1", "0 2 3");
            fits(x, 4, 7, "1", "0 2 3");
            fits(x, 4, 0, "", "0 1 2 3");
        });
    }

    private void fitsStores() {
        test(ALL, "5 it has the FLAG value", () -> {
            Postroom x = holding("F:a@a|I:1", "F:a@a|I:2", "F:a@a|I:3", "F:a@a|I:4");
            for (int which = 0; which < 4; which++) {
                x.flag(0, which, which, true);
            }
            fits(x, 5, 0, "0", "1 2 3");
            fits(x, 5, 1, "1", "0 2 3");
            fits(x, 5, 2, "2", "0 1 3");
            fits(x, 5, 3, "3", "0 1 2");
        });
        test(ALL, "6 its TIME is value or more", () -> {
            Postroom x = holding("F:a@a|I:1");
            x.tick(5);
            post(x, 0, "F:a@a|I:2");
            x.tick(1);
            post(x, 0, "F:a@a|I:3");
            x.tick(9);
            fits(x, 6, 0, "0 1 2", "");
            fits(x, 6, 1, "1 2", "0");
            fits(x, 6, 5, "1 2", "0");
            fits(x, 6, 6, "2", "0 1");
            fits(x, 6, 7, "", "0 1 2");
            fits(x, 6, 999, "", "0 1 2");
        });
        test(ALL, "7 its ROOT is that of the LETTER value (which is HELD there, too)", () -> {
            Postroom x = holding("F:a@a|I:1", "F:a@a|I:2|R:1", "F:a@a|I:3", "F:a@a|I:4|R:2");
            fits(x, 7, 0, "0 1 3", "2");
            fits(x, 7, 1, "0 1 3", "2");
            fits(x, 7, 3, "0 1 3", "2");
            fits(x, 7, 2, "2", "0 1 3");
            x.flag(0, 1, 3, true);
            x.expunge(0);
            fits(x, 7, 0, "0", "2 3");
            fits(x, 7, 1, "", "0 2 3");
        });
        test(ALL, "If there is no letter, FLAG or LETTER with that value, it does not FIT.", () -> {
            Postroom x = holding("F:h@h|I:1|S:h:|T:h@a", "F:a@a|I:2|S:abcdefgh|T:0@a");
            for (int which = 0; which < 4; which++) {
                x.flag(0, 0, which, true);
            }
            for (int kind : new int[] {0, 1, 4}) {
                fits(x, kind, 8, "", "0 1");
                fits(x, kind, 9, "", "0 1");
                fits(x, kind, 999, "", "0 1");
            }
            fits(x, 5, 4, "", "0 1");
            fits(x, 5, 32, "", "0 1");
            fits(x, 5, 999, "", "0 1");
            fits(x, 7, 2, "", "0 1");
            fits(x, 7, 30, "", "0 1");
            fits(x, 7, 999, "", "0 1");
            post(x, 1, "F:a@a|I:7");
            fits(x, 7, 2, "", "0 1");
            Postroom y = full();
            fits(y, 7, 30, "", y.holds(0, 1));
        });
    }

    private void rules() {
        test(ALL, "RULES (at most 6, by their order), each with a kind of 0 to 4, a value, a BOX (0 to 3, each STORE has its own) and perhaps a STOP", () -> {
            Postroom x = new Postroom();
            int[] values = {1, 2, 2, 5, 3, 0};
            for (int i = 0; i < 6; i++) {
                x.rule(i < 5 ? i : 2, values[i], i % 4, i == 4);
            }
            post(x, 0, "F:a@b|I:1");
            due("0, and the last one", boxes(x, 0), "0 0  ");
            post(x, 0, "F:a@a|I:2|S:c");
            due("1, and the last one", boxes(x, 0), "0 0 1  ");
            post(x, 0, "F:a@a|I:3||aaaaaaaaa");
            due("2, and the last one", boxes(x, 0), "0 0 1 2 2 ");
            post(x, 0, "F:a@a|I:4|R:5");
            due("3, and the last one", boxes(x, 0), "0 0 1 2 3 2 3");
            post(x, 0, "F:a@a|I:5|T:d@a");
            due("4, with a stop", boxes(x, 0), "0 4 0 1 2 3 2 3");
            due("the other store", boxes(x, 1), "   ");
            refused(() -> {
                Postroom y = new Postroom();
                for (int i = 0; i < 6; i++) {
                    y.rule(0, 0, 0, false);
                }
                return y;
            }, "a seventh", y -> y.rule(0, 0, 0, false), STATE);
        });
        test(ALL, "as a LETTER comes into a STORE, RULE by RULE: if it FITS, it is in that BOX, and if there is a STOP, that is all.", () -> {
            Postroom x = new Postroom();
            x.rule(1, 0, 0, true);
            x.rule(1, 1, 1, false);
            x.rule(2, 0, 2, true);
            x.rule(2, 0, 3, false);
            post(x, 0, "F:a@a|I:1|S:a b");
            due("the first stop", boxes(x, 0), "0   ");
            post(x, 0, "F:a@a|I:2|S:b");
            due("a stop of one that it does not fit", boxes(x, 0), "0 1 1 ");
            x.bring();
            due("brought", boxes(x, 1), "0 1 1 ");
            x.flag(0, 0, 0, true);
            x.unrule();
            due("boxes stay", boxes(x, 0), "0 1 1 ");
        });
        test(ALL, "As it leaves a STORE (also THROWN out), it is in none of its BOXES.", () -> {
            Postroom x = new Postroom();
            x.rule(2, 0, 1, false);
            x.rule(2, 0, 3, false);
            for (int i = 0; i < 4; i++) {
                post(x, 0, sized(i, 100));
                x.post(1);
            }
            x.unrule();
            x.unrule();
            due("boxes", boxes(x, 0), " 0 1 2 3  0 1 2 3");
            x.flag(0, 2, 3, true);
            x.expunge(0);
            due("expunged", boxes(x, 0), " 0 1 3  0 1 3");
            x.quota(0, 200);
            due("thrown out", boxes(x, 0), " 1 3  1 3");
            x.expire(0, 0);
            due("expired", boxes(x, 0), "   ");
            due("the other store", boxes(x, 1), " 0 1 2 3  0 1 2 3");
            type(x, sized(0, 100)).post(0);
            due("it comes again", boxes(x, 0), "   ");
            x.quota(1, 400);
            post(x, 1, sized(9, 150));
            due("thrown out by one that comes", boxes(x, 1), " 2 3  2 3");
        });
    }

    /** The boxes of a store, with a blank between two. */
    private static String boxes(Postroom x, int store) {
        return x.box(store, 0) + " " + x.box(store, 1) + " " + x.box(store, 2) + " " + x.box(store, 3);
    }

    private void folders() {
        test(ALL, "FOLDERS 0 to 3: each has a QUESTION: at most 4 CONDITIONS, each a kind of 0 to 7, a value, and perhaps a NOT.", () -> {
            Postroom x = new Postroom();
            for (int kind = 0; kind < 8; kind++) {
                due("ask", x.ask(kind / 4, kind, 999 - kind, kind % 3 == 0), kind % 4 + 1);
            }
            due("question", x.question(0), "!0:999&1:998&2:997&!3:996");
            due("question", x.question(1), "4:995&5:994&!6:993&7:992");
            due("question", x.question(2) + x.question(3), "");
            due("a fifth of another one", x.ask(3, 7, 0, true), 1);
        });
        test(ALL, "It holds those LETTERS of a STORE that FIT each one (with NOT: do not).", () -> {
            Postroom x = holding("F:a@a|I:1", "F:a@a|I:2|S:b", "F:a@a|I:3|S:bc", "F:a@a|I:4|S:c");
            due("no condition", x.holds(0, 0), "0 1 2 3");
            x.ask(0, 1, 1, false);
            due("one", x.holds(0, 0), "1 2");
            x.ask(0, 1, 2, true);
            due("two", x.holds(0, 0), "1");
            x.ask(0, 5, 0, false);
            due("three", x.holds(0, 0), "");
            x.flag(0, 1, 0, true);
            due("three", x.holds(0, 0), "1");
            x.ask(0, 0, 1, true);
            due("four", x.holds(0, 0), "1");
            due("the other store", x.holds(1, 0), "");
        });
    }

    private void lists() {
        test(ALL, "LISTS 0 to 3 have MEMBERS: ADDRESSES 0 to 15, and LISTS.", () -> {
            Postroom x = new Postroom();
            for (int list = 0; list < 4; list++) {
                due("none", x.member(list, false, 0, false), 0);
                for (int i = 0; i < 16; i++) {
                    due("an address", x.member(list, false, i, true), i + 1);
                }
                for (int i = 0; i < 4; i++) {
                    due("a list", x.member(list, true, i, true), i + 17);
                }
            }
        });
        test(ALL, "REACHED by a LIST: the ADDRESSES in it, and those in LISTS in it, and so on.", () -> {
            Postroom x = new Postroom();
            for (int i = 0; i < 4; i++) {
                x.member(i, false, 12 + i, true);
            }
            due("in it", x.reached(3), 8 << 12);
            x.member(3, true, 2, true);
            due("in a list in it", x.reached(3), 12 << 12);
            x.member(2, true, 1, true);
            x.member(1, true, 0, true);
            due("and so on", x.reached(3), 15 << 12);
            due("not the other way", x.reached(0), 1 << 12);
            x.member(0, true, 3, true);
            due("in a ring", x.reached(0) + " " + x.reached(1) + " " + x.reached(2), "61440 61440 61440");
            x.member(2, true, 1, false);
            due("no more", x.reached(3), 12 << 12);
            Postroom y = new Postroom();
            for (int i = 0; i < 4; i++) {
                y.member(i, false, i, true);
            }
            y.member(0, true, 2, true);
            y.member(2, true, 3, true);
            y.member(3, true, 1, true);
            due("over four lists", y.reached(0), 15);
            y.member(1, true, 1, true);
            due("one that has itself", y.reached(1), 2);
        });
        test(ALL, "Each ADDRESS is DOWN or not (not at first).", () -> {
            for (int i = 0; i < 16; i++) {
                due("at first", new Postroom().down(i, true), 0);
            }
        });
    }

    /** A room with two letters and a list 0 of these addresses. */
    private static Postroom listed(int... addresses) {
        Postroom x = holding("F:a@a|I:1", "F:a@a|I:2");
        for (int address : addresses) {
            x.member(0, false, address, true);
        }
        return x;
    }

    /** The row: of each envelope the letter, the address, how many tries, and when it is due. */
    private static String row(Postroom x) {
        StringBuilder out = new StringBuilder();
        for (int i = 0; i < x.house(3); i++) {
            out.append(i > 0 ? " " : "").append(x.ofOut(i, 0)).append(':').append(x.ofOut(i, 1)).append(':')
                    .append(x.ofOut(i, 2)).append(':').append(x.ofOut(i, 3));
        }
        return out.toString();
    }

    private void envelopes() {
        test(ALL, "ENVELOPES stand in a row, at most 20: each has a LETTER, an ADDRESS, TRIES, and is DUE at a time.", () -> {
            Postroom x = listed(1, 3);
            x.tick(7);
            x.send(1, 0);
            due("row", row(x), "1:1:0:7 1:3:0:7");
            for (int i = 0; i < 9; i++) {
                due("two more", x.send(0, 0), 2);
            }
            due("20", x.house(3), 20);
            due("22", x.send(0, 0), -4);
        });
        test(ALL, "In each minute that goes by CLOCK is one more, and then each ENVELOPE that stands in the row now and is DUE at CLOCK or ahead of it is tried, in the order of the row", () -> {
            Postroom x = listed(1, 2, 3);
            x.down(1, true);
            x.down(2, true);
            x.down(3, true);
            x.send(0, 0);
            x.tick(1);
            due("all are tried once", row(x), "0:1:1:3 0:2:1:3 0:3:1:3");
            x.tick(1);
            due("none is due", row(x), "0:1:1:3 0:2:1:3 0:3:1:3");
            x.send(1, 0);
            x.tick(1);
            due("some are due at clock, some ahead of it", row(x), "0:1:2:7 0:2:2:7 0:3:2:7 1:1:1:5 1:2:1:5 1:3:1:5");
            x.tick(1);
            x.tick(1);
            due("those behind them", row(x), "0:1:2:7 0:2:2:7 0:3:2:7 1:1:2:9 1:2:2:9 1:3:2:9");
        });
        test(ALL, "if its ADDRESS is not DOWN, it has ARRIVED and is off the row", () -> {
            Postroom x = listed(0, 14, 15);
            x.down(14, true);
            x.send(0, 0);
            due("two", x.tick(1), 2);
            due("arrived", x.house(4), 2);
            due("row", row(x), "0:14:1:3");
            x.down(14, false);
            due("not due", x.tick(1), 0);
            due("one", x.tick(1), 1);
            due("row", row(x), "");
            due("arrived and bounced", x.house(4) + " " + x.house(5), "3 0");
        });
    }

    private void tries() {
        test(ALL, "otherwise TRIES is one more: with 4 it has BOUNCED and is off the row", () -> {
            Postroom x = listed(5);
            x.down(5, true);
            x.send(0, 0);
            x.tick(14);
            due("with 3", row(x) + " " + x.house(5), "0:5:3:15 0");
            due("none arrived", x.tick(1), 0);
            due("with 4", row(x) + " " + x.house(5), " 1");
            due("none arrived", x.house(4), 0);
            Postroom y = listed(5);
            y.down(5, true);
            y.send(0, 0);
            y.tick(14);
            y.down(5, false);
            due("the fourth time", y.tick(1), 1);
            due("bounced", y.house(5), 0);
        });
        test(ALL, "otherwise it is DUE 2 to the power TRIES minutes later than CLOCK, and goes to the end of the row.", () -> {
            Postroom x = listed(5);
            x.down(5, true);
            x.send(0, 0);
            String[] rows = {"0:5:1:3", "0:5:1:3", "0:5:2:7", "0:5:2:7", "0:5:2:7", "0:5:2:7", "0:5:3:15"};
            for (String want : rows) {
                x.tick(1);
                due("row", row(x), want);
            }
            Postroom y = listed(5);
            y.down(5, true);
            y.send(0, 0);
            y.tick(2);
            y.send(1, 0);
            due("row", row(y), "0:5:1:3 1:5:0:2");
            y.tick(1);
            due("both to the end", row(y), "0:5:2:7 1:5:1:5");
            y.tick(2);
            y.send(0, 0);
            due("row", row(y), "0:5:2:7 1:5:2:9 0:5:0:5");
            y.tick(2);
            due("to the end, behind one that is not due", row(y), "1:5:2:9 0:5:1:8 0:5:3:15");
        });
    }

    private void exceptions() {
        test(ALL, "A method that throws an exception changes nothing.", () -> {
            refused(() -> typing(times(298, "a")), "say", x -> x.say(1, 2, 3, 4, 40, 5), STATE);
            refused("say", x -> x.say(1, 2, 3, 4, 40, 41), ARGUMENT);
            refused("build", x -> x.build(1, 2, 3, 4, 16, true), ARGUMENT);
            refused("tick", x -> x.tick(61), ARGUMENT);
            refused("quota", x -> x.quota(0, 2001), ARGUMENT);
        });
        test(ALL, "If several exceptions apply, the one that is named first is thrown.", () -> {
            refused(() -> typing(times(300, "a")), "say", x -> x.say(-2, 0, 0, 0, 0, 0), ARGUMENT);
            refused("answer", x -> x.answer(-1, -1, -1, true), INDEX);
            refused("poke", x -> x.poke(-1, -1), INDEX);
            refused(() -> type(full(), "F:a@a|I:30"), "post", x -> x.post(-1), INDEX);
            refused("flag", x -> x.flag(0, 2, -1, true), INDEX);
            refused("expire", x -> x.expire(-1, -1), INDEX);
            refused("quota", x -> x.quota(2, -1), INDEX);
            refused(() -> {
                Postroom y = new Postroom();
                for (int i = 0; i < 6; i++) {
                    y.rule(0, 0, 0, false);
                }
                return y;
            }, "rule", x -> x.rule(-1, 0, 0, true), ARGUMENT);
            refused("ofStore", x -> x.ofStore(-1, -1), INDEX);
            refused("ofLetter", x -> x.ofLetter(-1, -1), INDEX);
            refused("text", x -> x.text(-1, -1), INDEX);
            refused("leaf", x -> x.leaf(-1, -1, -1), INDEX);
            refused("held", x -> x.held(-1, 0, -1), INDEX);
            refused("ask", x -> x.ask(-1, -1, -1, true), INDEX);
            refused("member", x -> x.member(-1, true, -1, true), INDEX);
            refused("ofOut", x -> x.ofOut(-1, -1), INDEX);
        });
    }
}

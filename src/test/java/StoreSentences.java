/** The sentences of promises 17 to 29: stores. */
final class StoreSentences extends Sentences {
    StoreSentences(Book book) {
        super(book);
    }

    void testAll() {
        post();
        postRefused();
        flag();
        leave();
        quota();
        bring();
        bringRefused();
        rule();
        rerun();
        ofStore();
        since();
        search();
    }

    private interface StoreCall {
        Object on(Postroom x, int store);
    }

    private void noStore(StoreCall call) {
        for (int store : NO_STORES) {
            refused("store " + store, x -> call.on(x, store), INDEX);
        }
    }

    /** A letter of 17 or 18 signs. */
    private static String plain(int name) {
        return "F:a@a|I:" + name + "||aaaaaa";
    }

    private static Postroom withQuota(int store, int signs) {
        Postroom x = new Postroom();
        x.quota(store, signs);
        return x;
    }

    private void post() {
        test(17, "TYPED comes into a STORE as a LETTER (if one with that NAME and text was there ever, it is that one), with the next PLACE", () -> {
            Postroom x = new Postroom();
            due("the first", post(x, 1, plain(7)), 0);
            due("another one", post(x, 0, plain(3)), 1);
            due("its text", x.text(1, 0), plain(3));
            due("that one in the other store", x.post(1), 1);
            due("letters", x.house(0), 2);
            due("its place in 0", x.held(0, 1, 0), 1);
            due("its place in 1", x.held(1, 1, 0), 2);
            x.expire(1, 0);
            x.tick(4);
            due("that one again", x.post(1), 1);
            due("the next place", x.held(1, 1, 0), 3);
            due("its time", x.ofLetter(1, 4), 0);
            due("typed stays", x.typed(), plain(3));
        });
        test(17, "ahead of that one after the other is THROWN out, as long as SIGNS and its own would be above QUOTA", () -> {
            Postroom x = holding(sized(1, 200), sized(2, 200));
            due("just as much as the quota", post(x, 0, sized(3, 200)), 2);
            due("none is thrown out", x.ofStore(0, 10), 0);
            due("one more sign", post(x, 0, sized(4, 20)), 3);
            due("one is thrown out", x.ofStore(0, 10), 1);
            due("that one", x.held(0, 0, 0), -9);
            due("signs", x.ofStore(0, 1), 420);
            x.quota(0, 420);
            due("two at once", post(x, 0, sized(5, 300)), 4);
            due("as many as are needed", x.ofStore(0, 10), 3);
            due("held", x.since(0, 0), "3 4");
            due("the rest of the quota", post(x, 0, sized(6, 100)), 5);
            due("held", x.since(0, 0) + " of " + x.ofStore(0, 1), "3 4 5 of 420");
            x.quota(0, 300);
            due("all", post(x, 0, sized(7, 300)) + " " + x.since(0, 0), "6 6");
        });
        test(17, "RULES are tried.", () -> {
            Postroom x = new Postroom();
            x.rule(2, 2, 3, false);
            post(x, 0, sized(1, 19));
            post(x, 0, sized(2, 20));
            due("box", x.box(0, 3), "1");
            x.post(1);
            due("box of the other store", x.box(1, 3), "1");
        });
        test(17, "Returns its number; or one of these.", () -> {
            Postroom x = full();
            due("29 in the other store", x.post(1), 29);
            due("0 in the other store", type(x, "F:a@a|I:0|S:a a|T:a@a||aa").post(1), 0);
        });
    }

    private void postRefused() {
        test(17, "It is LET; -3, if TYPED has a FAULT", () -> {
            refused(() -> typing(""), "an empty text", x -> x.post(0), -3);
            refused(() -> typing("F:a@a"), "no name", x -> x.post(0), -3);
            refused(() -> type(busy(), "F:a@a|I:9|hh"), "a fault, and a name that is taken", x -> x.post(0), -3);
            refused(() -> type(full(), "F:a@a|I:30|hh"), "a fault, and 30 letters", x -> x.post(0), -3);
            refused(() -> type(withQuota(0, 100), "hh" + times(120, "a")), "a fault, and above quota", x -> x.post(0), -3);
        });
        test(17, "-4, if the STORE holds that LETTER", () -> {
            refused(() -> holding(plain(1)), "held already", x -> x.post(0), -4);
            refused(Sentences::full, "held already, with 30 letters", x -> x.post(0), -4);
            Postroom x = holding(plain(1));
            x.expire(0, 0);
            due("it left", x.post(0), 0);
        });
        test(17, "-5, if a LETTER with that NAME has another text", () -> {
            refused(() -> type(holding(plain(1)), plain(1) + "a"), "longer", x -> x.post(0), -5);
            refused(() -> type(holding(plain(1)), plain(1).substring(0, 15)), "shorter", x -> x.post(0), -5);
            refused(() -> type(holding(plain(1)), plain(1).replace("aaaaaa", "aaaaab")), "other", x -> x.post(1), -5);
            refused(() -> type(full(), "F:a@a|I:29"), "with 30 letters", x -> x.post(0), -5);
            Postroom x = holding(plain(1));
            x.expire(0, 0);
            due("of one that is held in no store", type(x, plain(1) + "a").post(0), -5);
            x.quota(1, 100);
            due("and above the quota", type(x, sized(1, 101)).post(1), -5);
        });
        test(17, "-6, if it has more SIGNS than QUOTA.", () -> {
            refused(() -> type(withQuota(0, 100), sized(1, 101)), "101 signs", x -> x.post(0), -6);
            due("100 signs", type(withQuota(0, 100), sized(1, 100)).post(0), 0);
            due("of the other store", type(withQuota(0, 100), sized(1, 101)).post(1), 0);
            refused(() -> {
                Postroom x = holding(sized(1, 101));
                x.quota(1, 100);
                return x;
            }, "101 signs of a letter that is known", x -> x.post(1), -6);
            refused(() -> {
                Postroom x = withQuota(0, 100);
                post(x, 0, sized(1, 90));
                return type(x, sized(2, 101));
            }, "none is thrown out for that", x -> x.post(0), -6);
        });
        test(17, "if store is not 0 or 1", () -> {
            noStore((x, store) -> x.post(store));
            refused(() -> type(full(), "F:a@a|I:30"), "store, and 30 letters", x -> x.post(2), INDEX);
            refused(() -> typing("F:a@a|I:1"), "a letter for store 2", x -> x.post(2), INDEX);
            due("store 0", typing("F:a@a|I:1").post(0), 0);
            due("store 1", typing("F:a@a|I:1").post(1), 0);
        });
        test(17, "if there are 30, TYPED has no FAULT, and no LETTER has its NAME", () -> {
            refused(() -> type(full(), "F:a@a|I:30"), "the 31st", x -> x.post(0), STATE);
            refused(() -> type(full(), "F:a@a|I:999"), "the 31st in the other store", x -> x.post(1), STATE);
            refused(() -> {
                Postroom x = full();
                x.expire(0, 0);
                return type(x, "F:a@a|I:30");
            }, "the 31st, though none is held", x -> x.post(0), STATE);
            refused(() -> {
                Postroom x = full();
                x.quota(1, 100);
                return type(x, sized(30, 101));
            }, "the 31st, and above the quota", x -> x.post(1), STATE);
            Postroom x = new Postroom();
            for (int i = 0; i < 29; i++) {
                post(x, 1, "F:a@a|I:" + i);
            }
            due("the 30th", type(x, "F:a@a|I:999").post(0), 29);
        });
    }

    private void flag() {
        test(18, "Sets a FLAG.", () -> {
            for (int which = 0; which < 4; which++) {
                Postroom x = holding(plain(1), plain(2));
                x.post(1);
                x.flag(0, 1, which, true);
                due("flags", x.held(0, 1, 1), 1 << which);
                due("flags of another one", x.held(0, 0, 1), 0);
                due("flags in the other store", x.held(1, 1, 1), 0);
                for (int other = 0; other < 4; other++) {
                    x.flag(0, 1, other, true);
                }
                x.flag(0, 1, which, false);
                due("flags", x.held(0, 1, 1), 15 - (1 << which));
            }
        });
        test(18, "whether it has it from now on", () -> {
            Postroom x = holding(plain(1));
            x.flag(0, 0, 2, false);
            due("never", x.held(0, 0, 1), 0);
            x.flag(0, 0, 2, true);
            x.flag(0, 0, 2, true);
            due("twice", x.held(0, 0, 1), 4);
        });
        test(18, "Returns 1 if it had it before, otherwise 0.", () -> {
            Postroom x = holding(plain(1));
            for (int which = 0; which < 4; which++) {
                due("not yet", x.flag(0, 0, which, false), 0);
                due("not yet", x.flag(0, 0, which, true), 0);
                due("before", x.flag(0, 0, which, true), 1);
                due("before", x.flag(0, 0, which, false), 1);
                due("no more", x.flag(0, 0, which, true), 0);
            }
        });
        test(18, "if store is not 0 or 1, or that LETTER is not HELD there", () -> {
            noStore((x, store) -> x.flag(store, 1, 0, true));
            for (int letter : new int[] {LOWEST, -1, 3, 29, 30, HIGHEST}) {
                refused("letter " + letter, x -> x.flag(0, letter, 0, true), INDEX);
                refused("letter " + letter + ", and which", x -> x.flag(0, letter, 4, true), INDEX);
            }
            refused("held in the other store", x -> x.flag(0, 2, 0, true), INDEX);
            refused("held in the other store", x -> x.flag(1, 0, 0, true), INDEX);
            refused("store, and which", x -> x.flag(2, 0, 4, true), INDEX);
            refused(() -> {
                Postroom x = holding(plain(1));
                x.expire(0, 0);
                return x;
            }, "it left", x -> x.flag(0, 0, 0, true), INDEX);
            Postroom x = full();
            due("letter 0", x.flag(0, 0, 0, true), 0);
            due("letter 29", x.flag(0, 29, 0, true), 0);
        });
        test(18, "if which is not 0 to 3", () -> {
            for (int which : new int[] {LOWEST, -1, 4, HIGHEST}) {
                refused("which " + which, x -> x.flag(0, 0, which, true), ARGUMENT);
            }
        });
    }

    private void leave() {
        test(19, "All that are GONE leave, by rising PLACES.", () -> {
            Postroom x = holding(plain(0), plain(1), plain(2), plain(3), plain(4));
            for (int letter : new int[] {0, 3, 4}) {
                x.flag(0, letter, 3, true);
            }
            x.flag(0, 3, 2, true);
            x.flag(0, 1, 0, true);
            x.flag(0, 2, 2, true);
            type(x, plain(0)).post(1);
            x.flag(1, 0, 3, true);
            x.expunge(0);
            due("held", x.since(0, 0), "1 2");
            due("held in the other store", x.since(1, 0), "0");
            due("none is thrown out", x.ofStore(0, 10), 0);
        });
        test(19, "Returns how many.", () -> {
            Postroom x = holding(plain(0), plain(1));
            due("none", x.expunge(0), 0);
            x.flag(0, 0, 3, true);
            due("one", x.expunge(0), 1);
            due("no more", x.expunge(0), 0);
            x.flag(0, 1, 3, true);
            due("all", x.expunge(0), 1);
            due("an empty store", x.expunge(0), 0);
            Postroom y = full();
            for (int i = 0; i < 30; i++) {
                y.flag(0, i, 3, true);
            }
            due("30", y.expunge(0), 30);
        });
        test(19, "if store is not 0 or 1", () -> {
            noStore((x, store) -> x.expunge(store));
            due("store 1", busy().expunge(1), 1);
        });
        test(20, "All that are not MARKED and whose TIME is so many minutes or more ahead of CLOCK leave, by rising PLACES.", () -> {
            Postroom x = holding(plain(0), plain(1));
            x.tick(3);
            post(x, 0, plain(2));
            x.flag(0, 1, 2, true);
            x.tick(7);
            x.expire(0, 11);
            due("10 minutes are less than 11", x.since(0, 0), "0 2 1");
            x.expire(0, 10);
            due("10 minutes, but one is marked", x.since(0, 0), "2 1");
            x.expire(0, 8);
            due("7 minutes are less than 8", x.since(0, 0), "2 1");
            x.expire(0, 7);
            due("7 minutes", x.since(0, 0), "1");
            post(x, 0, plain(3));
            x.expire(0, 0);
            due("no minutes", x.since(0, 0), "1");
            due("none is thrown out", x.ofStore(0, 10), 0);
        });
        test(20, "Returns how many.", () -> {
            Postroom x = holding(plain(0), plain(1), plain(2));
            x.flag(0, 1, 2, true);
            x.post(1);
            due("two", x.expire(0, 0), 2);
            due("none", x.expire(0, 0), 0);
            due("an empty store", holding().expire(0, 0), 0);
            due("30", full().expire(0, 0), 30);
        });
        test(20, "if store is not 0 or 1", () -> {
            noStore((x, store) -> x.expire(store, 0));
            refused("store, and minutes", x -> x.expire(2, -1), INDEX);
            due("store 1", busy().expire(1, 0), 2);
        });
        test(20, "if minutes is not 0 to 999", () -> {
            for (int minutes : new int[] {LOWEST, -1, 1000, HIGHEST}) {
                refused("minutes " + minutes, x -> x.expire(0, minutes), ARGUMENT);
            }
            Postroom x = holding(plain(0));
            for (int i = 0; i < 18; i++) {
                x.tick(i < 17 ? 58 : 12);
            }
            due("clock", x.house(1), 998);
            due("998 minutes", x.expire(0, 999), 0);
            x.tick(1);
            due("999 minutes", x.expire(0, 999), 1);
            due("0", holding(plain(0)).expire(0, 0), 1);
        });
    }

    private void quota() {
        test(21, "Tells QUOTA; as long as SIGNS are above it, one is THROWN out.", () -> {
            Postroom x = holding(sized(0, 50), sized(1, 50), sized(2, 50));
            x.quota(0, 150);
            due("as much as the quota", x.ofStore(0, 0), 3);
            x.quota(0, 149);
            due("one sign more", x.since(0, 0), "1 2");
            due("quota", x.ofStore(0, 2), 149);
            due("quota of the other one", x.ofStore(1, 2), 600);
            due("thrown out", x.ofStore(0, 10), 1);
            Postroom y = holding(sized(0, 100), sized(1, 100), sized(2, 100));
            y.quota(0, 100);
            due("two", y.since(0, 0), "2");
            y.quota(1, 2000);
            due("quota", y.ofStore(1, 2), 2000);
        });
        test(21, "Returns how many were.", () -> {
            due("an empty store", new Postroom().quota(0, 100), 0);
            Postroom x = holding(sized(0, 60), sized(1, 60), sized(2, 60));
            due("none", x.quota(0, 180), 0);
            due("two", x.quota(0, 119), 2);
            due("no more", x.quota(0, 119), 0);
            Postroom y = full();
            due("all but 3", y.quota(0, 100), 27);
        });
        test(21, "if store is not 0 or 1", () -> {
            noStore((x, store) -> x.quota(store, 100));
            refused("store, and signs", x -> x.quota(-1, 99), INDEX);
            due("store 1", busy().quota(1, 100), 0);
        });
        test(21, "if signs is not 100 to 2000", () -> {
            for (int signs : new int[] {LOWEST, -1, 0, 99, 2001, HIGHEST}) {
                refused("signs " + signs, x -> x.quota(0, signs), ARGUMENT);
            }
            Postroom x = new Postroom();
            x.quota(0, 100);
            due("100", x.ofStore(0, 2), 100);
            x.quota(0, 2000);
            due("2000", x.ofStore(0, 2), 2000);
        });
    }

    private void bring() {
        test(22, "LETTER by LETTER by rising NAMES", () -> {
            Postroom x = holding(plain(30), plain(10));
            post(x, 1, plain(40));
            post(x, 1, plain(20));
            x.bring();
            due("by rising names", x.since(1, 2), "1 0");
            due("by rising names", x.since(0, 2), "3 2");
            due("places", x.held(1, 1, 0) + " " + x.held(1, 0, 0), "3 4");
            due("places", x.held(0, 3, 0) + " " + x.held(0, 2, 0), "3 4");
        });
        test(22, "one that is in one STORE alone comes into the other one, with its FLAGS and the next PLACE (RULES are tried)", () -> {
            Postroom x = holding(plain(1), plain(2));
            x.flag(0, 0, 0, true);
            x.flag(0, 0, 3, true);
            x.flag(0, 1, 2, true);
            x.flag(0, 1, 1, true);
            post(x, 1, plain(3));
            x.flag(1, 2, 1, true);
            x.rule(3, 9, 0, false);
            x.rule(2, 0, 2, false);
            due("bring", x.bring(), 3);
            due("its flags", x.held(1, 0, 1), 9);
            due("its flags", x.held(1, 1, 1), 6);
            due("its flags", x.held(0, 2, 1), 2);
            due("flags stay", x.held(0, 0, 1) + " " + x.held(1, 2, 1), "9 2");
            due("place", x.held(1, 1, 0), 3);
            due("place", x.held(0, 2, 0), 3);
            due("rules for those that came", x.box(1, 2) + "/" + x.box(0, 2), "0 1/2");
            due("one count for each", x.ofStore(1, 3), 4);
            due("stamp", x.held(1, 1, 2), 4);
        });
        test(22, "one that is in both has then, in both, those of the FLAGS 0 to 2 that it had in either, and GONE if it had it in both", () -> {
            for (int first = 0; first < 16; first++) {
                for (int second : new int[] {first, 15 - first, 8, 7, 0}) {
                    Postroom x = holding(plain(1));
                    x.post(1);
                    for (int which = 0; which < 4; which++) {
                        x.flag(0, 0, which, (first >> which & 1) == 1);
                        x.flag(1, 0, which, (second >> which & 1) == 1);
                    }
                    int both = (first | second) & 7 | first & second & 8;
                    int counted = x.ofStore(0, 3);
                    due("changes", x.bring(), (both == first ? 0 : 1) + (both == second ? 0 : 1));
                    due("flags in 0", x.held(0, 0, 1), both);
                    due("flags in 1", x.held(1, 0, 1), both);
                    due("count", x.ofStore(0, 3), both == first ? counted : counted + 1);
                    due("stamp", x.held(0, 0, 2), x.ofStore(0, 3));
                    due("place", x.held(0, 0, 0), 1);
                }
            }
        });
        test(22, "one that is in both has then, in both,", () -> {
            Postroom x = holding(plain(1));
            x.post(1);
            x.rule(2, 0, 1, false);
            x.flag(0, 0, 0, true);
            due("bring", x.bring(), 1);
            due("no rules are tried for it", x.box(0, 1) + x.box(1, 1), "");
        });
        test(22, "Returns how often a LETTER came or had other FLAGS in a STORE then; or -6.", () -> {
            due("empty stores", new Postroom().bring(), 0);
            due("one", holding(plain(1)).bring(), 1);
            Postroom x = holding(plain(1), plain(2), plain(3));
            x.post(1);
            x.flag(0, 2, 0, true);
            x.flag(1, 2, 1, true);
            due("two came, one has other flags in both", x.bring(), 4);
            due("again", x.bring(), 0);
            x.expire(0, 0);
            x.expire(1, 0);
            due("none is held", x.bring(), 0);
            due("none has come", x.ofStore(0, 0) + " " + x.ofStore(1, 0), "0 0");
            Postroom y = full();
            y.quota(1, 2000);
            due("30", y.bring(), 30);
        });
    }

    private static Postroom twoStores(int first, int second) {
        Postroom x = new Postroom();
        post(x, 0, sized(1, 60));
        post(x, 1, sized(2, 50));
        post(x, 1, sized(3, 30));
        type(x, sized(1, 60)).post(1);
        x.quota(0, first);
        x.quota(1, second);
        return x;
    }

    private void bringRefused() {
        test(22, "It is LET; -6, if one of the STORES would be above its QUOTA then.", () -> {
            due("as much as the quota of 0", twoStores(140, 600).bring(), 2);
            Postroom z = holding(sized(9, 300));
            z.expire(0, 0);
            post(z, 1, sized(8, 100));
            z.quota(0, 100);
            due("one that is held in none is no matter", z.bring(), 1);
            refused(() -> twoStores(139, 600), "139 in 0", Postroom::bring, -6);
            due("as much as the quota of 1", twoStores(600, 140).bring(), 2);
            refused(() -> {
                Postroom x = new Postroom();
                post(x, 0, sized(1, 60));
                post(x, 1, sized(2, 80));
                x.quota(1, 139);
                return x;
            }, "139 in 1", Postroom::bring, -6);
            refused(() -> {
                Postroom x = holding(sized(1, 60), sized(2, 80));
                type(x, sized(1, 60)).post(1);
                x.flag(0, 0, 1, true);
                x.quota(1, 139);
                return x;
            }, "139 in 1, and other flags", Postroom::bring, -6);
        });
    }

    private void rule() {
        test(23, "A RULE comes behind the others. (BOXES stay.)", () -> {
            Postroom x = new Postroom();
            x.rule(2, 0, 3, true);
            x.rule(2, 0, 1, false);
            post(x, 0, plain(1));
            due("behind one with a stop", x.box(0, 3) + "/" + x.box(0, 1), "0/");
            Postroom y = holding(plain(1));
            y.rule(2, 0, 0, false);
            due("boxes stay", y.box(0, 0), "");
        });
        test(23, "Returns how many there are.", () -> {
            Postroom x = new Postroom();
            for (int i = 1; i <= 6; i++) {
                due("rule", x.rule(i % 5, 999, i % 4, false), i);
                due("rules", x.house(2), i);
            }
        });
        test(23, "if kind is not 0 to 4, value not 0 to 999, or box not 0 to 3", () -> {
            for (int bad : new int[] {LOWEST, -1, 5, 6, 7, HIGHEST}) {
                refused("kind " + bad, x -> x.rule(bad, 0, 0, false), ARGUMENT);
            }
            for (int bad : new int[] {LOWEST, -1, 1000, HIGHEST}) {
                refused("value " + bad, x -> x.rule(0, bad, 0, false), ARGUMENT);
            }
            for (int bad : new int[] {LOWEST, -1, 4, HIGHEST}) {
                refused("box " + bad, x -> x.rule(0, 0, bad, false), ARGUMENT);
                refused(StoreSentences::sixRules, "box " + bad + ", and 6 rules", x -> x.rule(0, 0, bad, true), ARGUMENT);
            }
            refused(StoreSentences::sixRules, "kind, and 6 rules", x -> x.rule(5, 0, 0, true), ARGUMENT);
            refused(StoreSentences::sixRules, "value, and 6 rules", x -> x.rule(0, 1000, 0, true), ARGUMENT);
            due("the lowest", new Postroom().rule(0, 0, 0, false), 1);
            due("the highest", new Postroom().rule(4, 999, 3, true), 1);
        });
        test(23, "if there are 6", () -> {
            refused(StoreSentences::sixRules, "a seventh", x -> x.rule(2, 0, 0, false), STATE);
            refused(StoreSentences::sixRules, "a seventh", x -> x.rule(4, 999, 3, true), STATE);
            Postroom x = sixRules();
            x.unrule();
            due("a sixth", x.rule(2, 0, 3, false), 6);
            post(x, 0, plain(7));
            due("it is tried", x.box(0, 3), "1");
        });
        test(24, "The last RULE goes, if there is one. (BOXES stay.)", () -> {
            Postroom x = new Postroom();
            x.rule(2, 0, 1, false);
            x.rule(2, 0, 2, false);
            post(x, 0, plain(1));
            x.unrule();
            due("boxes stay", x.box(0, 1) + "/" + x.box(0, 2), "0/0");
            post(x, 0, plain(2));
            due("the last one", x.box(0, 1) + "/" + x.box(0, 2), "0 1/0");
        });
        test(24, "Returns how many there are.", () -> {
            Postroom x = sixRules();
            for (int i = 5; i >= 0; i--) {
                due("unrule", x.unrule(), i);
            }
            due("there is none", x.unrule(), 0);
            due("there is none", x.house(2), 0);
            due("there is one", x.rule(0, 0, 0, false), 1);
        });
    }

    /** With a letter that is in box 0, and six rules that it fits, of which the last one alone is of box 3. */
    private static Postroom sixRules() {
        Postroom x = new Postroom();
        x.rule(2, 0, 0, false);
        post(x, 0, plain(1));
        for (int i = 1; i < 6; i++) {
            x.rule(2, 1, i < 5 ? i % 3 : 3, false);
        }
        return x;
    }

    private void rerun() {
        test(25, "The BOXES of a STORE are emptied, and RULES tried for all that it holds.", () -> {
            Postroom x = new Postroom();
            x.rule(2, 0, 0, false);
            post(x, 0, plain(1));
            x.post(1);
            post(x, 0, sized(2, 30));
            x.unrule();
            x.rule(2, 3, 2, true);
            x.rule(2, 0, 3, false);
            x.rerun(0);
            due("emptied", x.box(0, 0), "");
            due("tried", x.box(0, 2) + "/" + x.box(0, 3), "1/0");
            due("the other store", x.box(1, 0), "0");
            due("count stays", x.ofStore(0, 3), 2);
        });
        test(25, "Returns how many are in some BOX then.", () -> {
            due("an empty store", sixRules().rerun(1), 0);
            Postroom x = holding(plain(1), sized(2, 30), sized(3, 40));
            due("no rules", x.rerun(0), 0);
            x.rule(2, 3, 0, false);
            x.rule(2, 4, 1, false);
            due("two, one of them in two boxes", x.rerun(0), 2);
            x.unrule();
            x.unrule();
            due("no rules", x.rerun(0), 0);
            due("box", x.box(0, 0), "");
            Postroom y = full();
            y.rule(2, 0, 3, false);
            due("30", y.rerun(0), 30);
        });
        test(25, "if store is not 0 or 1", () -> {
            noStore((x, store) -> x.rerun(store));
            due("store 1", busy().rerun(1), 2);
        });
        test(26, "Returns the LETTERS in it by rising numbers, with a blank between two.", () -> {
            Postroom x = new Postroom();
            x.rule(2, 2, 1, false);
            post(x, 1, sized(3, 20));
            post(x, 1, sized(2, 19));
            post(x, 1, sized(1, 21));
            due("no letter", x.box(0, 1), "");
            type(x, sized(1, 21)).post(0);
            due("one", x.box(0, 1), "2");
            type(x, sized(3, 20)).post(0);
            due("by rising numbers", x.box(0, 1), "0 2");
            due("box 0", x.box(0, 0), "");
            Postroom y = full();
            y.rule(2, 0, 0, false);
            y.rerun(0);
            StringBuilder all = new StringBuilder("0");
            for (int i = 1; i < 30; i++) {
                all.append(' ').append(i);
            }
            due("30", y.box(0, 0), all.toString());
        });
        test(26, "if store is not 0 or 1, or box not 0 to 3", () -> {
            noStore((x, store) -> x.box(store, 0));
            for (int box : new int[] {LOWEST, -1, 4, HIGHEST}) {
                refused("box " + box, x -> x.box(0, box), INDEX);
            }
            due("the lowest", busy().box(0, 0), "1");
            due("the highest", busy().box(1, 3), "1 2");
        });
    }

    private void ofStore() {
        test(27, "0 how many it holds, 1 SIGNS, 2 QUOTA, 3 COUNT, 4 how many PLACES were told, 5 THREADS, 6 SEEN ones, 7 DONE ones, 8 MARKED ones, 9 GONE ones, 10 how many were THROWN out ever", () -> {
            Postroom x = holding(sized(1, 200), sized(2, 30), sized(3, 40), sized(4, 50), "F:a@a|I:6|R:3 4", "F:a@a|I:7|R:6");
            x.quota(0, 347);
            for (int letter = 1; letter <= 5; letter++) {
                x.flag(0, letter, 0, letter <= 4);
                x.flag(0, letter, 1, letter <= 3);
                x.flag(0, letter, 2, letter == 3 || letter == 5);
                x.flag(0, letter, 3, letter == 5);
            }
            // 348 signs were one too many for the quota; 6 came, 1 left, and 10 times one got a flag
            int[] want = {5, 148, 347, 17, 6, 3, 4, 3, 2, 1, 1};
            for (int what = 0; what <= 10; what++) {
                due("ofStore(0, " + what + ")", x.ofStore(0, what), want[what]);
            }
            type(x, sized(1, 200)).post(0);
            int[] then = {5, 335, 347, 19, 7, 4, 4, 3, 1, 0, 2};
            for (int what = 0; what <= 10; what++) {
                due("ofStore(0, " + what + ") then", x.ofStore(0, what), then[what]);
            }
        });
        test(27, "Returns that.", () -> {
            Postroom x = new Postroom();
            int[] want = {0, 0, 600, 0, 0, 0, 0, 0, 0, 0, 0};
            for (int what = 0; what <= 10; what++) {
                due("ofStore(1, " + what + ")", x.ofStore(1, what), want[what]);
            }
        });
        test(27, "if store is not 0 or 1", () -> {
            for (int what = 0; what <= 10; what++) {
                int of = what;
                refused("store -1", x -> x.ofStore(-1, of), INDEX);
                refused("store 2", x -> x.ofStore(2, of), INDEX);
            }
            noStore((x, store) -> x.ofStore(store, 11));
        });
        test(27, "if what is not 0 to 10", () -> {
            for (int what : new int[] {LOWEST, -1, 11, HIGHEST}) {
                refused("what " + what, x -> x.ofStore(0, what), ARGUMENT);
                refused("what " + what, x -> x.ofStore(1, what), ARGUMENT);
            }
        });
    }

    private void since() {
        test(28, "Returns those with a STAMP above it, by rising STAMPS, with a blank between two.", () -> {
            Postroom x = holding(plain(0), plain(1), plain(2));
            x.flag(0, 0, 1, true);
            due("above 0", x.since(0, 0), "1 2 0");
            due("above 1", x.since(0, 1), "1 2 0");
            due("above 2", x.since(0, 2), "2 0");
            due("above 3", x.since(0, 3), "0");
            due("above 4", x.since(0, 4), "");
            due("the other store", x.since(1, 0), "");
            x.flag(0, 2, 3, true);
            x.expunge(0);
            due("one left", x.since(0, 0), "1 0");
            due("30", full().since(0, 28), "28 29");
        });
        test(28, "a number", () -> {
            Postroom x = holding(plain(0));
            due("the lowest", x.since(0, LOWEST), "0");
            due("the highest", x.since(0, HIGHEST), "");
        });
        test(28, "if store is not 0 or 1", () -> {
            noStore((x, store) -> x.since(store, 0));
            due("store 1", busy().since(1, 2), "2 1");
        });
    }

    private void search() {
        test(29, "Returns those whose text has TYPED in it, by rising PLACES, with a blank between two.", () -> {
            Postroom x = holding("F:a@a|I:5||abc", "F:a@a|I:3||abd", "F:a@a|I:4||ab");
            x.flag(0, 0, 3, true);
            x.expunge(0);
            type(x, "F:a@a|I:5||abc").post(0);
            due("a whole text", x.search(0), "0");
            due("one sign more", type(x, "F:a@a|I:5||abca").search(0), "");
            due("an empty text", type(x, "").search(0), "1 2 0");
            due("the first signs", type(x, "F:a@a").search(0), "1 2 0");
            due("the last sign", type(x, "c").search(0), "0");
            due("over lines", type(x, "||abd").search(0), "1");
            due("two", type(x, "ab").search(0), "1 2 0");
            due("none", type(x, "abb").search(0), "");
            due("the other store", x.search(1), "");
            due("300 signs", type(x, times(300, "a")).search(0), "");
            due("an empty text in an empty store", type(x, "").search(1), "");
        });
        test(29, "if store is not 0 or 1", () -> {
            noStore((x, store) -> x.search(store));
            due("store 1", type(busy(), "I:12").search(1), "2");
        });
    }
}

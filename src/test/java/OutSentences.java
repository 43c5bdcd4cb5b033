import java.math.BigInteger;

/** The sentences of promises 39 to 48: lists, and what goes out. */
final class OutSentences extends Sentences {
    private static final int[] NO_LISTS = {LOWEST, -1, 4, HIGHEST};

    OutSentences(Book book) {
        super(book);
    }

    void testAll() {
        member();
        memberRefused();
        reached();
        send();
        sendRefused();
        down();
        tick();
        tickRefused();
        ofOut();
        house();
        isSound();
        digest();
        digestOfEach();
    }

    private void member() {
        test(39, "Tells a MEMBER of a LIST (it may have itself).", () -> {
            Postroom x = new Postroom();
            x.member(2, false, 5, true);
            x.member(2, true, 2, true);
            due("reached", x.reached(2), 1 << 5);
            x.member(3, true, 2, true);
            due("reached", x.reached(3), 1 << 5);
            due("another list", x.reached(0), 0);
        });
        test(39, "whether the MEMBER is a LIST, otherwise an ADDRESS", () -> {
            Postroom x = new Postroom();
            x.member(1, false, 7, true);
            due("an address", x.member(0, false, 1, true), 1);
            due("reached", x.reached(0), 1 << 1);
            due("a list", x.member(0, true, 1, true), 2);
            due("reached", x.reached(0), 1 << 1 | 1 << 7);
            due("no list", x.member(0, true, 1, false), 1);
            due("reached", x.reached(0), 1 << 1);
        });
        test(39, "whether it is one from now on", () -> {
            Postroom x = new Postroom();
            due("never", x.member(0, false, 0, false), 0);
            due("it is", x.member(0, false, 0, true), 1);
            due("it is already", x.member(0, false, 0, true), 1);
            due("no more", x.member(0, false, 0, false), 0);
            due("no more", x.reached(0), 0);
        });
        test(39, "Returns how many MEMBERS it has then.", () -> {
            Postroom x = new Postroom();
            for (int i = 0; i < 16; i++) {
                due("address " + i, x.member(0, false, i, true), i + 1);
            }
            for (int i = 0; i < 4; i++) {
                due("list " + i, x.member(0, true, i, true), 17 + i);
            }
            due("one less", x.member(0, true, 0, false), 19);
            due("another list", x.member(1, true, 0, true), 1);
        });
    }

    private void memberRefused() {
        test(39, "if list is not 0 to 3", () -> {
            for (int list : NO_LISTS) {
                refused("list " + list, x -> x.member(list, false, 0, true), INDEX);
                refused("list " + list + ", and number", x -> x.member(list, false, 16, true), INDEX);
                refused("list " + list + ", and number of a list", x -> x.member(list, true, 4, true), INDEX);
            }
            due("list 0", new Postroom().member(0, false, 0, true), 1);
            due("list 3", new Postroom().member(3, false, 0, true), 1);
        });
        test(39, "if number is not 0 to 15, or of a LIST not 0 to 3", () -> {
            for (int number : new int[] {LOWEST, -1, 16, 32, HIGHEST}) {
                refused("number " + number, x -> x.member(0, false, number, true), ARGUMENT);
                refused("number " + number, x -> x.member(0, false, number, false), ARGUMENT);
            }
            for (int number : new int[] {LOWEST, -1, 4, 15, 16, HIGHEST}) {
                refused("number " + number + " of a list", x -> x.member(0, true, number, true), ARGUMENT);
                refused("number " + number + " of a list", x -> x.member(0, true, number, false), ARGUMENT);
            }
            due("address 15", new Postroom().member(0, false, 15, true), 1);
            due("list 3", new Postroom().member(0, true, 3, true), 1);
        });
    }

    private void reached() {
        test(40, "Returns the set of ADDRESSES that are REACHED by it (the sum of 2^k).", () -> {
            Postroom x = new Postroom();
            due("an empty list", x.reached(0), 0);
            for (int i = 0; i < 16; i++) {
                x.member(1, false, i, true);
                due("to " + i, x.reached(1), (2 << i) - 1);
            }
            due("the other list", x.reached(0), 0);
            x.member(0, true, 1, true);
            due("all", x.reached(0), 65535);
        });
        test(40, "if list is not 0 to 3", () -> {
            for (int list : NO_LISTS) {
                refused("list " + list, x -> x.reached(list), INDEX);
            }
            due("list 0", busy().reached(0), 1 << 3 | 1 << 15);
            due("list 3", busy().reached(3), 0);
        });
    }

    /** A list 0 with so many addresses, 15 and lower ones. */
    private static Postroom listed(int members) {
        Postroom x = holding("F:a@a|I:1", "F:a@a|I:2");
        for (int i = 0; i < members; i++) {
            x.member(0, false, 15 - i, true);
        }
        return x;
    }

    private void send() {
        test(41, "An ENVELOPE with the LETTER, without TRIES, DUE at CLOCK, for each ADDRESS that is REACHED by the LIST, by rising numbers, comes behind the row.", () -> {
            Postroom x = listed(2);
            x.member(1, true, 0, true);
            x.member(1, false, 3, true);
            x.tick(4);
            x.send(1, 1);
            x.tick(60);
            x.tick(5);
            x.down(3, true);
            x.send(1, 1);
            x.tick(1);
            x.send(0, 0);
            int[][] want = {{1, 3, 1, 72}, {0, 14, 0, 70}, {0, 15, 0, 70}};
            for (int place = 0; place < 3; place++) {
                for (int what = 0; what < 4; what++) {
                    due("ofOut(" + place + ", " + what + ")", x.ofOut(place, what), want[place][what]);
                }
            }
            Postroom y = listed(3);
            y.expire(0, 0);
            due("one that is held in no store", y.send(1, 0), 3);
            due("by rising numbers", y.ofOut(0, 1) + " " + y.ofOut(1, 1) + " " + y.ofOut(2, 1), "13 14 15");
        });
        test(41, "Returns how many came; -4, if there would be more than 20.", () -> {
            due("an empty list", listed(0).send(0, 0), 0);
            due("16", listed(16).send(0, 0), 16);
            Postroom x = listed(10);
            due("10", x.send(0, 0), 10);
            due("20", x.send(0, 0), 10);
            due("envelopes", x.house(3), 20);
            due("an empty list behind 20", x.send(0, 2), 0);
            x.tick(1);
            due("after they are off the row", x.send(0, 0), 10);
        });
    }

    private static Postroom sent(int members, int times) {
        Postroom x = listed(members);
        for (int i = 0; i < times; i++) {
            x.send(1, 0);
        }
        return x;
    }

    private void sendRefused() {
        test(41, "It is LET.", () -> {
            refused(() -> sent(7, 2), "21", x -> x.send(0, 0), -4);
            refused(() -> sent(10, 2), "30", x -> x.send(0, 0), -4);
            refused(() -> {
                Postroom x = sent(10, 2);
                x.member(3, false, 0, true);
                return x;
            }, "one behind 20", x -> x.send(0, 3), -4);
        });
        test(41, "if there is no such LETTER, or list is not 0 to 3", () -> {
            for (int letter : new int[] {LOWEST, -1, 3, 29, 30, HIGHEST}) {
                refused("letter " + letter, x -> x.send(letter, 0), INDEX);
                refused("letter " + letter + " to an empty list", x -> x.send(letter, 2), INDEX);
            }
            for (int list : NO_LISTS) {
                refused("list " + list, x -> x.send(0, list), INDEX);
            }
            refused(() -> sent(10, 2), "letter, and 30", x -> x.send(2, 0), INDEX);
            due("letter 29", full().send(29, 3), 0);
            refused(Sentences::full, "letter 30", x -> x.send(30, 3), INDEX);
        });
    }

    private void down() {
        test(42, "Tells whether an ADDRESS is DOWN.", () -> {
            for (int address = 0; address < 16; address++) {
                Postroom x = holding("F:a@a|I:1");
                x.member(0, false, address, true);
                x.member(0, false, 15 - address, true);
                x.down(address, true);
                x.send(0, 0);
                due("the other one is not down", x.tick(1), 1);
                due("it is", x.ofOut(0, 1), address);
                x.down(address, false);
                due("it is no more", x.tick(2), 1);
            }
        });
        test(42, "whether it is DOWN from now on", () -> {
            Postroom x = new Postroom();
            x.down(3, false);
            due("never", x.down(3, true), 0);
            x.down(3, true);
            due("twice", x.down(3, false), 1);
            due("no more", x.down(3, false), 0);
        });
        test(42, "Returns 1 if it was before, otherwise 0.", () -> {
            Postroom x = new Postroom();
            for (int address = 0; address < 16; address++) {
                due("not at first", x.down(address, true), 0);
                due("before", x.down(address, true), 1);
            }
            for (int address = 0; address < 16; address++) {
                due("before", x.down(address, false), 1);
                due("not before", x.down(address, false), 0);
            }
        });
        test(42, "if address is not 0 to 15", () -> {
            for (int address : new int[] {LOWEST, -1, 16, 31, 32, HIGHEST}) {
                refused("address " + address, x -> x.down(address, true), INDEX);
                refused("address " + address, x -> x.down(address, false), INDEX);
            }
        });
    }

    private void tick() {
        test(43, "Minutes go by.", () -> {
            Postroom x = new Postroom();
            x.tick(1);
            due("clock", x.house(1), 1);
            x.tick(60);
            due("clock", x.house(1), 61);
        });
        test(43, "Returns how many ENVELOPES ARRIVED by that.", () -> {
            due("an empty row", new Postroom().tick(60), 0);
            Postroom x = listed(2);
            x.down(14, true);
            x.send(0, 0);
            due("one, and the other one is down", x.tick(1), 1);
            x.send(0, 0);
            due("one", x.tick(1), 1);
            x.down(14, false);
            due("both, in more than one minute", x.tick(4), 2);
            due("no more", x.tick(60), 0);
            due("all ever", x.house(4), 4);
            Postroom y = sent(10, 2);
            due("20", y.tick(1), 20);
        });
    }

    private static Postroom late(int minutes) {
        Postroom x = holding("F:a@a|I:1");
        x.member(0, false, 4, true);
        for (int i = 0; i < 166; i++) {
            x.tick(60);
        }
        x.tick(minutes);
        x.send(0, 0);
        return x;
    }

    private void tickRefused() {
        test(43, "if minutes is not 1 to 60", () -> {
            for (int minutes : new int[] {LOWEST, -1, 0, 61, HIGHEST}) {
                refused("minutes " + minutes, x -> x.tick(minutes), ARGUMENT);
            }
            refused(() -> late(39), "minutes, and above 9999", x -> x.tick(61), ARGUMENT);
        });
        test(43, "if CLOCK would be above 9999", () -> {
            Postroom x = late(38);
            due("to 9999", x.tick(1), 1);
            due("clock", x.house(1), 9999);
            refused(() -> late(39), "10000", y -> y.tick(1), STATE);
            refused(() -> late(38), "10000", y -> y.tick(2), STATE);
            refused(() -> late(1), "10021", y -> y.tick(60), STATE);
            due("60 minutes to 9999", lateBy59().tick(60), 0);
        });
    }

    /** A room at 9939. */
    private static Postroom lateBy59() {
        Postroom x = new Postroom();
        for (int i = 0; i < 165; i++) {
            x.tick(60);
        }
        x.tick(39);
        return x;
    }

    private void ofOut() {
        test(44, "a place of the row, from 0 on", () -> {
            Postroom x = sent(2, 1);
            due("0", x.ofOut(0, 1), 14);
            due("1", x.ofOut(1, 1), 15);
        });
        test(44, "0 LETTER, 1 ADDRESS, 2 TRIES, 3 when it is DUE", () -> {
            Postroom x = sent(1, 1);
            x.tick(60);
            x.down(15, true);
            x.send(1, 0);
            x.tick(3);
            int[] want = {1, 15, 2, 67};
            for (int what = 0; what < 4; what++) {
                due("ofOut(0, " + what + ")", x.ofOut(0, what), want[what]);
            }
        });
        test(44, "Returns that of the ENVELOPE there.", () -> {
            Postroom x = sent(10, 2);
            due("the first one", x.ofOut(0, 1), 6);
            due("the last one", x.ofOut(19, 1), 15);
        });
        test(44, "if none is there", () -> {
            for (int place : new int[] {LOWEST, -1, 3, 20, HIGHEST}) {
                refused("place " + place, x -> x.ofOut(place, 0), INDEX);
                refused("place " + place + ", and what", x -> x.ofOut(place, 4), INDEX);
            }
            due("the last of 3", busy().ofOut(2, 0), 0);
            refused(() -> sent(1, 0), "an empty row", x -> x.ofOut(0, 0), INDEX);
            refused(() -> sent(10, 2), "behind 20", x -> x.ofOut(20, 0), INDEX);
            refused(() -> {
                Postroom x = sent(1, 1);
                x.tick(1);
                return x;
            }, "off the row", x -> x.ofOut(0, 0), INDEX);
        });
        test(44, "if what is not 0 to 3", () -> {
            for (int what : new int[] {LOWEST, -1, 4, HIGHEST}) {
                refused("what " + what, x -> x.ofOut(0, what), ARGUMENT);
            }
        });
    }

    private void house() {
        test(45, "Knocks.", () -> {
            Postroom x = new Postroom();
            x.knock();
            due("knocked", x.house(7), 1);
        });
        test(45, "Returns how often one knocked, with this.", () -> {
            Postroom x = new Postroom();
            for (int i = 1; i <= 512; i++) {
                due("knock", x.knock(), i);
            }
        });
        test(46, "0 LETTERS, 1 CLOCK, 2 RULES, 3 ENVELOPES, 4 how many ARRIVED ever, 5 how many BOUNCED ever, 6 how many SIGNS TYPED has, 7 how often one knocked, 8 CONDITIONS of all FOLDERS", () -> {
            Postroom x = listed(7);
            for (int i = 0; i < 3; i++) {
                x.rule(0, 0, 0, false);
            }
            x.down(9, true);
            x.down(10, true);
            x.send(0, 0);
            x.tick(20);
            x.member(1, false, 0, true);
            x.send(0, 1);
            for (int i = 0; i < 10; i++) {
                x.ask(i % 4, 0, 0, false);
            }
            x.knock();
            x.knock();
            x.knock();
            x.knock();
            x.expire(0, 0);
            int[] want = {2, 20, 3, 1, 5, 2, 9, 4, 10};
            for (int what = 0; what <= 8; what++) {
                due("house(" + what + ")", x.house(what), want[what]);
            }
        });
        test(46, "Returns that.", () -> {
            for (int what = 0; what <= 8; what++) {
                due("house(" + what + ")", new Postroom().house(what), 0);
            }
        });
        test(46, "if what is not 0 to 8", () -> {
            for (int what : new int[] {LOWEST, -1, 9, HIGHEST}) {
                refused("what " + what, x -> x.house(what), ARGUMENT);
            }
        });
    }

    private void isSound() {
        test(47, "Returns whether all of this is so", () -> {
            due("a new object", new Postroom().isSound(), true);
            due("a busy room", busy().isSound(), true);
            due("a full room", full().isSound(), true);
            Postroom x = holding("F:a@a|I:1|K:d1||--1|K:d2||--2|K:d3||--3||b|--3-|--2-|--1-");
            due("parts of parts of parts", x.isSound() + " " + x.ofLetter(0, 3), "true 1");
        });
        test(47, "each LETTER has a text without FAULT, and no two have the same NAME", () -> {
            Postroom x = full();
            type(x, "F:a@a|I:30|hh").post(1);
            type(x, "F:a@a|I:29").post(1);
            due("sound", x.isSound(), true);
        });
        test(47, "SIGNS of each STORE are not above QUOTA, no two PLACES in it are alike, and no two STAMPS in it", () -> {
            Postroom x = busy();
            x.flag(1, 2, 0, true);
            x.bring();
            due("brought together", x.isSound(), true);
            x.quota(0, 100);
            due("another quota", x.isSound(), true);
            post(x, 0, sized(30, 100));
            due("as much as the quota", x.isSound() + " " + x.ofStore(0, 1), "true 100");
        });
        test(47, "each LETTER that is HELD has a PARENT with a smaller NAME, or none, and is in the THREAD of its ROOT just once", () -> {
            Postroom x = holding("F:a@a|I:5|R:6", "F:a@a|I:6|R:5", "F:a@a|I:7|R:7 5", "F:a@a|I:8|S:a:b", "F:a@a|I:9|S:a:b");
            due("sound", x.isSound(), true);
            x.flag(0, 0, 3, true);
            x.expunge(0);
            due("without the root", x.isSound(), true);
            Postroom chain = new Postroom();
            chain.quota(0, 2000);
            for (int i = 0; i < 30; i++) {
                post(chain, 0, "F:a@a|I:" + (100 + i) + "|R:" + (99 + i));
            }
            due("30 one behind the other", chain.isSound() + " " + chain.ofStore(0, 5), "true 1");
        });
        test(47, "TYPED in CODE q, read by q, is TYPED, likewise by b, and quoted and unquoted", () -> {
            due("all signs", typing(SIGNS).isSound(), true);
            due("300 signs", typing(times(300, "=")).isSound(), true);
            due("300 empty lines", typing(times(300, "|")).isSound(), true);
            due("what looks like a code", typing("=3|>>=7c|g").isSound(), true);
        });
        test(47, "and each LETTER is in BOXES of a STORE only if it is HELD there.", () -> {
            Postroom x = new Postroom();
            x.rule(2, 0, 1, false);
            post(x, 0, "F:a@a|I:1");
            x.post(1);
            x.expire(0, 0);
            due("it left", x.isSound(), true);
            x.rerun(0);
            due("rerun", x.isSound() + x.box(0, 1), "true");
        });
    }

    /** Numbers without a bound, of which the lowest 64 bits are left in the end. */
    private static final class Sum {
        private static final BigInteger BASE = BigInteger.valueOf(31);
        private BigInteger d = BigInteger.valueOf(5802);

        void add(int v) {
            d = d.multiply(BASE).add(BigInteger.valueOf(v));
        }
    }

    private static Sum summed(Postroom x) {
        Sum sum = new Sum();
        for (int what = 0; what <= 8; what++) {
            sum.add(x.house(what));
        }
        sum.add(x.fault());
        sum.add(x.addresses());
        for (int letter = 0; letter < x.house(0); letter++) {
            for (int what = 0; what <= 9; what++) {
                sum.add(x.ofLetter(letter, what));
            }
            for (int what = 0; what <= 5; what++) {
                sum.add(x.text(letter, what).length());
            }
            for (int nth = 0; nth < x.ofLetter(letter, 3); nth++) {
                for (int what = 0; what <= 4; what++) {
                    sum.add(x.leaf(letter, nth, what));
                }
            }
        }
        for (int store = 0; store < 2; store++) {
            addStore(sum, x, store);
        }
        for (int i = 0; i < 4; i++) {
            sum.add(x.question(i).length());
        }
        for (int i = 0; i < 4; i++) {
            sum.add(x.reached(i));
        }
        for (int i = 0; i < x.house(3); i++) {
            for (int what = 0; what <= 3; what++) {
                sum.add(x.ofOut(i, what));
            }
        }
        sum.add(x.isSound() ? 1 : 0);
        return sum;
    }

    private static void addStore(Sum sum, Postroom x, int store) {
        for (int what = 0; what <= 10; what++) {
            sum.add(x.ofStore(store, what));
        }
        for (int letter = 0; letter < x.house(0); letter++) {
            for (int what = 0; what <= 6; what++) {
                sum.add(x.held(store, letter, what));
            }
            sum.add(x.thread(store, letter).length());
        }
        for (int i = 0; i < 4; i++) {
            sum.add(x.holds(store, i).length());
        }
        for (int i = 0; i < 4; i++) {
            sum.add(x.box(store, i).length());
        }
        sum.add(x.since(store, 3).length());
    }

    private void summed(String what, Postroom x) {
        due(what, x.digest(), summed(x).d.longValue());
    }

    private void digest() {
        test(48, "Computes a checksum. A number d starts with 5802; then d becomes d * 31 + v", () ->
            due("a new object", new Postroom().digest(), summed(new Postroom()).d.longValue()));
        test(48, "which wraps around as a 64-bit integer", () -> {
            due("more than 64 bits", summed(new Postroom()).d.bitLength() > 64, true);
            boolean isNegative = false;
            boolean isPositive = false;
            for (int signs = 0; signs < 20; signs++) {
                Postroom x = typing(times(signs, "a"));
                long digest = x.digest();
                due("the lowest 64 bits", digest, summed(x).d.longValue());
                isNegative = isNegative || digest < 0;
                isPositive = isPositive || digest > 0;
            }
            due("below 0 and above 0", isNegative && isPositive, true);
        });
        test(48, "Returns d.", () -> {
            Postroom x = busy();
            due("twice", x.digest(), x.digest());
            due("that of the given runs", new Postroom().digest(), -835419991738116005L);
        });
    }

    private void digestOfEach() {
        test(48, "for each v in this order: house() of 0 to 8; fault(); addresses(); LETTER by LETTER ofLetter() of 0 to 9, the number of signs of text() of 0 to 5, LEAF by LEAF leaf() of 0 to 4; STORE by STORE: ofStore() of 0 to 10, LETTER by LETTER held() of 0 to 6, the number of signs of thread(), FOLDER by FOLDER that of holds(), BOX by BOX that of box(), that of since() by 3; FOLDER by FOLDER that of question(); LIST by LIST reached(); ENVELOPE by ENVELOPE ofOut() of 0 to 3; 1 if isSound(), otherwise 0.", () -> {
            summed("a busy room", busy());
            Postroom x = busy();
            summed("a list of addresses", type(x, "a@b,c@d"));
            x.bring();
            post(x, 0, "F:a@a|I:91|X:a|S:a:bc|T:a@b,c@d|R:5 9|K:d1||--1||abc|--1|K:c||=3d|--1-");
            x.rerun(0);
            x.flag(0, 3, 2, true);
            x.tick(9);
            summed("a letter with leaves", x);
        });
    }
}

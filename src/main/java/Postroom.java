/**
 * A post room: one text is typed and turned about, letters are posted into two stores and go out by
 * a clock. What each call answers is promised in ../shared/DOC.md.
 */
public final class Postroom {
    private static final int NONE = -1;
    private static final int FAULTY = -3;
    private static final int TOO_MUCH = -4;
    private static final int NAME_TAKEN = -5;
    private static final int ABOVE_QUOTA = -6;
    private static final int IMPOSSIBLE = -9;

    private static final int SIGNS_LIMIT = 300;
    private static final int LETTERS_LIMIT = 30;
    private static final int NUMBERS = 1000;
    private static final int STORES = 2;
    private static final int BOXES = 4;
    private static final int FLAGS = 4;
    private static final int RULES_LIMIT = 6;
    private static final int FOLDERS = 4;
    private static final int CONDITIONS_LIMIT = 4;
    private static final int LISTS = 4;
    private static final int ADDRESSES = 16;
    private static final int ENVELOPES_LIMIT = 20;
    private static final int TRIES_LIMIT = 4;
    private static final int CLOCK_LIMIT = 9999;
    private static final int FOLD_WIDTH = 20;
    /** A text of 300 signs in a code has 900; an answer to one of 300 has less than 700. */
    private static final int DRAFT_ROOM = 1200;

    private static final int TAKE_AWAY = 39;
    private static final int TAKE_ALL = 40;

    private static final int SEEN = 1;
    private static final int MARKED = 4;
    private static final int GONE = 8;

    private static final String SIGNS = "abcdefgh FTSIRKX:;,<>@()=?_-0123456789|";
    private static final String PLAIN_IN_Q = "abcdefgh 0123456789";
    private static final String DIGITS_OF_Q = "0123456789abcdef";
    private static final String DIGITS_OF_B = "abcdefgh01234567";
    private static final String LETTERS_OF_ADDRESSES = "abcd";
    private static final int LETTERS_OF_WORDS = 8;

    private static final String HEAD_NAMES = "FTSIRKX";
    private static final int HEAD_F = 0;
    private static final int HEAD_T = 1;
    private static final int HEAD_S = 2;
    private static final int HEAD_I = 3;
    private static final int HEAD_R = 4;
    private static final int HEAD_K = 5;
    private static final int HEAD_X = 6;
    private static final int NEEDED_HEADS = (1 << HEAD_F) | (1 << HEAD_I);

    private static final int KIND_A = 0;
    private static final int KIND_C = 1;
    private static final int KIND_B = 2;
    private static final int KIND_D = 3;
    /** A part of a part of a part has no parts. */
    private static final int PARTS_DEPTH = 3;

    private static final int LEAF_FACTS = 5;
    private static final int LEAVES_LIMIT = 100;
    private static final int LISTED_LIMIT = 100;

    private final Tape tape = new Tape(SIGNS_LIMIT);
    private final Tape draft = new Tape(DRAFT_ROOM);
    private final Tape proof = new Tape(DRAFT_ROOM);
    private final int[] keys = new int[6];
    private final Reading reading = new Reading();
    private final Shelf shelf = new Shelf();
    private final Store[] stores = new Store[STORES];
    private final Conditions rules = new Conditions(RULES_LIMIT);
    private final Conditions[] folders = new Conditions[FOLDERS];
    private final Lists lists = new Lists();
    private final Row row = new Row();
    private int clock;
    private int knocks;

    public Postroom() {
        for (int i = 0; i < STORES; i++) {
            stores[i] = new Store();
        }
        for (int i = 0; i < FOLDERS; i++) {
            folders[i] = new Conditions(CONDITIONS_LIMIT);
        }
    }

    // What is typed

    public int say(int a, int b, int c, int d, int e, int f) throws IllegalArgumentException, IllegalStateException {
        keys[0] = a;
        keys[1] = b;
        keys[2] = c;
        keys[3] = d;
        keys[4] = e;
        keys[5] = f;
        if (!areKeys()) {
            throw new IllegalArgumentException("a code is -1 to 40");
        }
        if (highestSize() > SIGNS_LIMIT) {
            throw new IllegalStateException("more than 300 signs");
        }
        for (int i = 0; i < keys.length; i++) {
            press(keys[i]);
        }
        return tape.size;
    }

    private boolean areKeys() {
        for (int i = 0; i < keys.length; i++) {
            if (keys[i] < NONE || keys[i] > TAKE_ALL) {
                return false;
            }
        }
        return true;
    }

    private int highestSize() {
        int size = tape.size;
        int highest = size;
        for (int i = 0; i < keys.length; i++) {
            size = sizeBehind(size, keys[i]);
            highest = Math.max(highest, size);
        }
        return highest;
    }

    private static int sizeBehind(int size, int key) {
        if (key == NONE) {
            return size;
        }
        if (key == TAKE_ALL) {
            return 0;
        }
        return key == TAKE_AWAY ? Math.max(size - 1, 0) : size + 1;
    }

    private void press(int key) {
        if (key >= 0 && key < SIGNS.length()) {
            tape.put(SIGNS.charAt(key));
        } else {
            tape.cut(sizeBehind(tape.size, key));
        }
    }

    public int build(int from, int name, int subject, int ref, int body, boolean isAnswer)
            throws IllegalArgumentException {
        if (!isAddress(from) || !isAddress(subject) || !isAddress(body)
                || !isNumber(name) || ref < NONE || ref >= NUMBERS) {
            throw new IllegalArgumentException("no such address, number, subject or body");
        }
        draft.clear();
        putHeadsOfSender(from, name);
        draft.putText(isAnswer ? "S:a:" : "S:");
        draft.put(letterOfAddress(subject % 4));
        draft.put(' ');
        draft.put(letterOfAddress(subject / 4));
        if (ref != NONE) {
            draft.putText("|R:");
            draft.putNumber(ref);
        }
        draft.putText("|T:");
        putAddress(body);
        draft.put('|');
        for (int line = 0; line <= body % 4; line++) {
            draft.put('|');
            for (int i = 0; i < body / 4 + 2; i++) {
                draft.put(letterOfAddress(body % 4));
            }
        }
        tape.copy(draft);
        return tape.size;
    }

    private static boolean isAddress(int number) {
        return number >= 0 && number < ADDRESSES;
    }

    private static boolean isNumber(int number) {
        return number >= 0 && number < NUMBERS;
    }

    private static char letterOfAddress(int nth) {
        return nth >= 0 && nth < LETTERS_OF_ADDRESSES.length() ? LETTERS_OF_ADDRESSES.charAt(nth) : ' ';
    }

    private void putAddress(int number) {
        draft.put(letterOfAddress(number % 4));
        draft.put('@');
        draft.put(letterOfAddress(number / 4));
    }

    private void putHeadsOfSender(int from, int name) {
        draft.putText("F:");
        putAddress(from);
        draft.putText("|I:");
        draft.putNumber(name);
        draft.put('|');
    }

    public int answer(int letter, int from, int name, boolean isForward)
            throws IndexOutOfBoundsException, IllegalArgumentException {
        checkLetter(letter);
        if (!isAddress(from) || !isNumber(name)) {
            throw new IllegalArgumentException("no such address or number");
        }
        Letter old = shelf.letters[letter];
        draft.clear();
        putHeadsOfSender(from, name);
        draft.putText(isForward ? "S:f:" : "S:a:");
        draft.putRange(old.subject, old.baseAt, old.subject.length);
        if (!isForward) {
            putHeadsOfAnswer(old);
        }
        draft.put('|');
        putBody(old, !isForward);
        if (draft.size > SIGNS_LIMIT) {
            return TOO_MUCH;
        }
        tape.copy(draft);
        return tape.size;
    }

    private void putHeadsOfAnswer(Letter old) {
        draft.putText("|R:");
        for (int i = 0; i < old.refs.length; i++) {
            draft.putNumber(old.refs[i]);
            draft.put(' ');
        }
        draft.putNumber(old.name);
        draft.putText("|T:");
        draft.putRange(old.from, 0, old.from.length);
    }

    private void putBody(Letter old, boolean isQuoted) {
        if (old.bodyLines == 0) {
            return;
        }
        draft.put('|');
        if (isQuoted) {
            draft.put('>');
        }
        for (int i = old.bodyAt; i < old.signs.length; i++) {
            draft.put(old.signs[i]);
            if (isQuoted && old.signs[i] == '|') {
                draft.put('>');
            }
        }
    }

    public int poke(int place, int code) throws IndexOutOfBoundsException, IllegalArgumentException {
        if (place < 0 || place >= tape.size) {
            throw new IndexOutOfBoundsException("no such place");
        }
        if (code < 0 || code >= SIGNS.length()) {
            throw new IllegalArgumentException("a code is 0 to 38");
        }
        int old = SIGNS.indexOf(tape.cells[place]);
        tape.cells[place] = SIGNS.charAt(code);
        return old;
    }

    public int fold() {
        draft.clear();
        int start = 0;
        for (int i = 0; i <= tape.size; i++) {
            if (tape.isLineEnd(i)) {
                foldLine(start, i);
                draft.put('|');
                start = i + 1;
            }
        }
        draft.cut(draft.size - 1);
        if (draft.size > SIGNS_LIMIT) {
            return TOO_MUCH;
        }
        tape.copy(draft);
        return tape.lines();
    }

    private void foldLine(int start, int end) {
        int left = start;
        for (int turn = 0; turn < SIGNS_LIMIT && end - left > FOLD_WIDTH; turn++) {
            int place = foldPlace(left, end);
            if (place == NONE) {
                break;
            }
            draft.putRange(tape.cells, left, place);
            draft.put('|');
            left = place;
        }
        draft.putRange(tape.cells, left, end);
    }

    private int foldPlace(int left, int end) {
        for (int i = left + FOLD_WIDTH; i > left; i--) {
            if (tape.signAt(i) == ' ') {
                return i;
            }
        }
        for (int i = left + FOLD_WIDTH + 1; i < end; i++) {
            if (tape.signAt(i) == ' ') {
                return i;
            }
        }
        return NONE;
    }

    public int unfold() {
        draft.clear();
        for (int i = 0; i < tape.size; i++) {
            if (tape.cells[i] != '|' || tape.signAt(i + 1) != ' ') {
                draft.put(tape.cells[i]);
            }
        }
        tape.copy(draft);
        return tape.lines();
    }

    public int quote() {
        quoteInto(draft);
        if (draft.size > SIGNS_LIMIT) {
            return TOO_MUCH;
        }
        tape.copy(draft);
        return tape.lines();
    }

    private void quoteInto(Tape out) {
        out.clear();
        out.put('>');
        for (int i = 0; i < tape.size; i++) {
            out.put(tape.cells[i]);
            if (tape.cells[i] == '|') {
                out.put('>');
            }
        }
    }

    public int unquote() {
        int lines = unquoteInto(tape, draft);
        tape.copy(draft);
        return lines;
    }

    private static int unquoteInto(Tape in, Tape out) {
        out.clear();
        int lines = 0;
        for (int i = 0; i < in.size; i++) {
            if (in.cells[i] == '>' && in.isLineStart(i)) {
                lines++;
            } else {
                out.put(in.cells[i]);
            }
        }
        return lines;
    }

    public int code(boolean isB) {
        writeInCode(isB, draft);
        if (draft.size > SIGNS_LIMIT) {
            return TOO_MUCH;
        }
        tape.copy(draft);
        return tape.size;
    }

    private void writeInCode(boolean isB, Tape out) {
        out.clear();
        for (int i = 0; i < tape.size; i++) {
            char sign = tape.cells[i];
            if (sign == '|') {
                out.put(sign);
            } else if (isB) {
                out.putInB(sign);
            } else {
                out.putInQ(sign);
            }
        }
    }

    public int uncode(boolean isB) {
        if (!readFromCode(tape, isB, draft)) {
            return IMPOSSIBLE;
        }
        tape.copy(draft);
        return tape.size;
    }

    private static boolean readFromCode(Tape in, boolean isB, Tape out) {
        out.clear();
        int start = 0;
        for (int i = 0; i <= in.size; i++) {
            if (in.isLineEnd(i)) {
                int first = out.size;
                if (!out.putRead(in.cells, start, i, isB ? KIND_B : KIND_C) || !areSigns(out, first)) {
                    return false;
                }
                out.put('|');
                start = i + 1;
            }
        }
        out.cut(out.size - 1);
        return true;
    }

    /** Whether all from there on are signs that a line can have. */
    private static boolean areSigns(Tape out, int first) {
        for (int i = first; i < out.size; i++) {
            char sign = out.signAt(i);
            if (sign == '|' || SIGNS.indexOf(sign) < 0) {
                return false;
            }
        }
        return true;
    }

    public String typed() {
        return tape.asText();
    }

    public int fault() {
        reading.open(tape.cells, tape.size);
        return Reading.firstWrong(reading, 0, reading.lines, 0);
    }

    public int depth(int line) throws IllegalArgumentException {
        if (line < 0) {
            throw new IllegalArgumentException("lines are counted from 0");
        }
        if (line >= tape.lines()) {
            return NONE;
        }
        int start = tape.startOfLine(line);
        int quotes = 0;
        for (int i = start; i < tape.size && tape.cells[i] == '>'; i++) {
            quotes++;
        }
        return quotes;
    }

    public int addresses() {
        AddressList list = reading.list;
        return list.read(tape.cells, tape.size) ? list.count : FAULTY;
    }

    public String address(int nth, boolean isHost) throws IllegalArgumentException {
        if (nth < 0) {
            throw new IllegalArgumentException("addresses are counted from 0");
        }
        draft.clear();
        AddressList list = reading.list;
        if (list.read(tape.cells, tape.size) && nth < list.count) {
            draft.putRange(list.bare, isHost ? list.hosts[nth] : list.starts[nth], list.ends[nth]);
        }
        return draft.asText();
    }

    // Stores

    private static boolean isStore(int store) {
        return store >= 0 && store < STORES;
    }

    private static void checkStore(int store) {
        if (!isStore(store)) {
            throw new IndexOutOfBoundsException("no such store");
        }
    }

    public int post(int store) throws IndexOutOfBoundsException, IllegalStateException {
        checkStore(store);
        if (fault() != NONE) {
            return FAULTY;
        }
        int letter = shelf.numberOf(reading.numberIn(HEAD_I));
        if (letter == NONE && shelf.count >= LETTERS_LIMIT) {
            throw new IllegalStateException("there are 30 letters");
        }
        Store here = stores[store];
        if (letter != NONE && !tape.isLike(shelf.letters[letter].signs)) {
            return NAME_TAKEN;
        }
        if (letter != NONE && here.isHeld(letter)) {
            return TOO_MUCH;
        }
        if (tape.size > here.quota) {
            return ABOVE_QUOTA;
        }
        if (letter == NONE) {
            letter = shelf.add(new Letter(reading, clock));
        }
        throwOut(here, tape.size);
        comeInto(store, letter, 0);
        link(here);
        return letter;
    }

    /** Throws letters out until so many signs more are not above the quota; tells how many. */
    private int throwOut(Store store, int more) {
        int thrown = 0;
        for (int turn = 0; turn < LETTERS_LIMIT && store.signs + more > store.quota; turn++) {
            int letter = store.firstToThrow();
            if (letter != NONE) {
                leave(store, letter);
                thrown++;
            }
        }
        store.thrown += thrown;
        return thrown;
    }

    private void leave(Store store, int letter) {
        if (shelf.has(letter)) {
            store.leave(letter, shelf.letters[letter].signs.length);
        }
    }

    private void comeInto(int store, int letter, int flags) {
        if (shelf.has(letter)) {
            stores[store].come(letter, shelf.letters[letter].signs.length, flags);
            tryRules(store, letter);
        }
    }

    private void tryRules(int store, int letter) {
        int boxes = 0;
        for (int i = 0; i < rules.size; i++) {
            if (fits(store, letter, rules.kinds[i], rules.values[i])) {
                boxes |= 1 << rules.boxes[i];
                if (rules.marks[i]) {
                    break;
                }
            }
        }
        stores[store].boxes[letter] = boxes;
    }

    /** Finds the parents anew, after letters came or left. */
    private void link(Store store) {
        store.unlink();
        // by falling names, as each child is put ahead of those that are linked already
        for (int i = shelf.count - 1; i >= 0; i--) {
            int letter = shelf.byName[i];
            if (store.isHeld(letter)) {
                store.link(letter, parentOf(store, letter));
            }
        }
    }

    private int parentOf(Store store, int letter) {
        Letter child = shelf.letters[letter];
        for (int i = child.refs.length - 1; i >= 0; i--) {
            int parent = shelf.numberOf(child.refs[i]);
            if (store.isHeld(parent) && child.refs[i] < child.name) {
                return parent;
            }
        }
        return child.answers() && child.hasBase() ? firstOfBase(store, letter) : NONE;
    }

    private int firstOfBase(Store store, int letter) {
        Letter child = shelf.letters[letter];
        for (int i = 0; i < shelf.count; i++) {
            int other = shelf.byName[i];
            if (other != letter && store.isHeld(other) && shelf.letters[other].family == child.family) {
                return shelf.letters[other].name < child.name ? other : NONE;
            }
        }
        return NONE;
    }

    private boolean fits(int store, int n, int kind, int value) {
        Letter letter = shelf.letters[n];
        Store here = stores[store];
        switch (kind) {
            case 0:
                return isWordLetter(letter.from, letter.hostAt, value);
            case 1:
                return letter.subjectHas(value);
            case 2:
                return letter.signs.length >= 10 * value;
            case 3:
                return letter.refersTo(value);
            case 4:
                return letter.isTo(value);
            case 5:
                return value < FLAGS && ((here.flags[n] >> value) & 1) == 1;
            case 6:
                return letter.time >= value;
            default:
                return here.isHeld(value) && here.rootOf(value) == here.rootOf(n);
        }
    }

    /** Whether the letter with that number of "abcdefgh" stands there. */
    private static boolean isWordLetter(char[] signs, int place, int value) {
        return value >= 0 && value < LETTERS_OF_WORDS
                && place >= 0 && place < signs.length && signs[place] == 'a' + value;
    }

    private void checkHeld(int store, int letter) {
        if (!isStore(store) || !stores[store].isHeld(letter)) {
            throw new IndexOutOfBoundsException("no such store, or the letter is not held there");
        }
    }

    public int flag(int store, int letter, int which, boolean isOn)
            throws IndexOutOfBoundsException, IllegalArgumentException {
        checkHeld(store, letter);
        if (which < 0 || which >= FLAGS) {
            throw new IllegalArgumentException("a flag is 0 to 3");
        }
        Store here = stores[store];
        int old = here.flags[letter];
        int bit = 1 << which;
        here.setFlags(letter, isOn ? old | bit : old & ~bit);
        return (old >> which) & 1;
    }

    public int expunge(int store) throws IndexOutOfBoundsException {
        checkStore(store);
        return leaveAll(stores[store], NONE);
    }

    public int expire(int store, int minutes) throws IndexOutOfBoundsException, IllegalArgumentException {
        checkStore(store);
        if (!isNumber(minutes)) {
            throw new IllegalArgumentException("minutes are 0 to 999");
        }
        return leaveAll(stores[store], minutes);
    }

    /** Lets those leave that are gone (NONE), or that are so many minutes old; tells how many. */
    private int leaveAll(Store store, int minutes) {
        int before = store.held;
        int next = 0;
        for (int turn = 0; turn < before; turn++) {
            int letter = store.byPlace[next];
            if (minutes == NONE ? (store.flags[letter] & GONE) != 0 : isExpired(store, letter, minutes)) {
                leave(store, letter);
            } else {
                next++;
            }
        }
        link(store);
        return before - store.held;
    }

    private boolean isExpired(Store store, int letter, int minutes) {
        return (store.flags[letter] & MARKED) == 0 && clock - shelf.letters[letter].time >= minutes;
    }

    public int quota(int store, int signs) throws IndexOutOfBoundsException, IllegalArgumentException {
        checkStore(store);
        if (signs < 100 || signs > 2000) {
            throw new IllegalArgumentException("a quota is 100 to 2000");
        }
        Store here = stores[store];
        here.quota = signs;
        int thrown = throwOut(here, 0);
        link(here);
        return thrown;
    }

    public int bring() {
        int signs = signsOfBoth();
        if (signs > stores[0].quota || signs > stores[1].quota) {
            return ABOVE_QUOTA;
        }
        int changes = 0;
        for (int i = 0; i < shelf.count; i++) {
            changes += bringOne(shelf.byName[i]);
        }
        link(stores[0]);
        link(stores[1]);
        return changes;
    }

    private int signsOfBoth() {
        int signs = 0;
        for (int i = 0; i < shelf.count; i++) {
            if (stores[0].isHeld(i) || stores[1].isHeld(i)) {
                signs += shelf.letters[i].signs.length;
            }
        }
        return signs;
    }

    private int bringOne(int letter) {
        int first = stores[0].flags[letter];
        int second = stores[1].flags[letter];
        boolean isInFirst = stores[0].isHeld(letter);
        boolean isInSecond = stores[1].isHeld(letter);
        if (isInFirst && isInSecond) {
            int flags = ((first | second) & ~GONE) | (first & second & GONE);
            return stores[0].setFlags(letter, flags) + stores[1].setFlags(letter, flags);
        }
        if (isInFirst) {
            comeInto(1, letter, first);
        } else if (isInSecond) {
            comeInto(0, letter, second);
        }
        return isInFirst || isInSecond ? 1 : 0;
    }

    public int rule(int kind, int value, int box, boolean isStop)
            throws IllegalArgumentException, IllegalStateException {
        if (kind < 0 || kind > 4 || !isNumber(value) || box < 0 || box >= BOXES) {
            throw new IllegalArgumentException("no such kind, value or box");
        }
        if (rules.size >= RULES_LIMIT) {
            throw new IllegalStateException("there are 6 rules");
        }
        rules.add(kind, value, box, isStop);
        return rules.size;
    }

    public int unrule() {
        rules.removeLast();
        return rules.size;
    }

    public int rerun(int store) throws IndexOutOfBoundsException {
        checkStore(store);
        Store here = stores[store];
        int boxed = 0;
        for (int i = 0; i < here.held; i++) {
            int letter = here.byPlace[i];
            tryRules(store, letter);
            boxed += here.boxes[letter] == 0 ? 0 : 1;
        }
        return boxed;
    }

    public String box(int store, int box) throws IndexOutOfBoundsException {
        if (!isStore(store) || box < 0 || box >= BOXES) {
            throw new IndexOutOfBoundsException("no such store or box");
        }
        writeBox(store, box);
        return draft.asText();
    }

    private int writeBox(int store, int box) {
        Store here = stores[store];
        draft.clear();
        for (int i = 0; i < shelf.count; i++) {
            if (((here.boxes[i] >> box) & 1) == 1) {
                draft.putNext(i);
            }
        }
        return draft.size;
    }

    public int ofStore(int store, int what) throws IndexOutOfBoundsException, IllegalArgumentException {
        checkStore(store);
        Store here = stores[store];
        switch (what) {
            case 0:
                return here.held;
            case 1:
                return here.signs;
            case 2:
                return here.quota;
            case 3:
                return here.count;
            case 4:
                return here.places;
            case 5:
                return here.threads();
            case 6:
            case 7:
            case 8:
            case 9:
                return here.flagged(what - 6);
            case 10:
                return here.thrown;
            default:
                throw new IllegalArgumentException("what is 0 to 10");
        }
    }

    public String since(int store, int count) throws IndexOutOfBoundsException {
        checkStore(store);
        writeSince(store, count);
        return draft.asText();
    }

    private int writeSince(int store, int count) {
        Store here = stores[store];
        draft.clear();
        int last = count;
        for (int turn = 0; turn < here.held; turn++) {
            int letter = here.nextStamp(last);
            if (letter == NONE) {
                break;
            }
            draft.putNext(letter);
            last = here.stamps[letter];
        }
        return draft.size;
    }

    public String search(int store) throws IndexOutOfBoundsException {
        checkStore(store);
        Store here = stores[store];
        draft.clear();
        for (int i = 0; i < here.held; i++) {
            int letter = here.byPlace[i];
            if (tape.isIn(shelf.letters[letter].signs)) {
                draft.putNext(letter);
            }
        }
        return draft.asText();
    }

    // Letters, threads, folders

    private void checkLetter(int letter) {
        if (!shelf.has(letter)) {
            throw new IndexOutOfBoundsException("no such letter");
        }
    }

    public int ofLetter(int letter, int what) throws IndexOutOfBoundsException, IllegalArgumentException {
        checkLetter(letter);
        Letter one = shelf.letters[letter];
        switch (what) {
            case 0:
                return one.name;
            case 1:
                return one.signs.length;
            case 2:
                return one.heads;
            case 3:
                return one.leafCount();
            case 4:
                return one.time;
            case 5:
                return one.refs.length;
            case 6:
                return one.toCount;
            case 7:
                return one.bodyLines;
            case 8:
                return one.answers() ? 1 : 0;
            case 9:
                return one.border;
            default:
                throw new IllegalArgumentException("what is 0 to 9");
        }
    }

    public String text(int letter, int what) throws IndexOutOfBoundsException, IllegalArgumentException {
        checkLetter(letter);
        if (what < 0 || what > 5) {
            throw new IllegalArgumentException("what is 0 to 5");
        }
        writeText(letter, what);
        return draft.asText();
    }

    private int writeText(int letter, int what) {
        Letter one = shelf.letters[letter];
        char[] signs = one.textOf(what);
        draft.clear();
        draft.putRange(signs, what == 3 ? one.baseAt : 0, signs.length);
        return draft.size;
    }

    public int leaf(int letter, int nth, int what) throws IndexOutOfBoundsException, IllegalArgumentException {
        checkLetter(letter);
        if (nth < 0 || what < 0 || what >= LEAF_FACTS) {
            throw new IllegalArgumentException("no such leaf or what");
        }
        Letter one = shelf.letters[letter];
        return nth < one.leafCount() ? one.leaves[nth * LEAF_FACTS + what] : NONE;
    }

    public int held(int store, int letter, int what) throws IndexOutOfBoundsException, IllegalArgumentException {
        if (!isStore(store) || !shelf.has(letter)) {
            throw new IndexOutOfBoundsException("no such store or letter");
        }
        if (what < 0 || what > 6) {
            throw new IllegalArgumentException("what is 0 to 6");
        }
        Store here = stores[store];
        if (!here.isHeld(letter)) {
            return IMPOSSIBLE;
        }
        switch (what) {
            case 0:
                return here.place[letter];
            case 1:
                return here.flags[letter];
            case 2:
                return here.stamps[letter];
            case 3:
                return here.parent[letter];
            case 4:
                return here.rootOf(letter);
            case 5:
                return here.heldAhead(letter);
            default:
                return here.comingTo(letter);
        }
    }

    public String thread(int store, int letter) throws IndexOutOfBoundsException {
        if (!isStore(store) || !shelf.has(letter)) {
            throw new IndexOutOfBoundsException("no such store or letter");
        }
        writeThread(store, letter);
        return draft.asText();
    }

    private int writeThread(int store, int letter) {
        draft.clear();
        Store here = stores[store];
        if (here.isHeld(letter)) {
            Store.putBranch(here, here.rootOf(letter), draft, 0);
        }
        return draft.size;
    }

    private static void checkFolder(int folder) {
        if (folder < 0 || folder >= FOLDERS) {
            throw new IndexOutOfBoundsException("no such folder");
        }
    }

    public int ask(int folder, int kind, int value, boolean isNot)
            throws IndexOutOfBoundsException, IllegalArgumentException, IllegalStateException {
        checkFolder(folder);
        if (kind < 0 || kind > 7 || !isNumber(value)) {
            throw new IllegalArgumentException("no such kind or value");
        }
        Conditions question = folders[folder];
        if (question.size >= CONDITIONS_LIMIT) {
            throw new IllegalStateException("the folder has 4 conditions");
        }
        question.add(kind, value, 0, isNot);
        return question.size;
    }

    public int unask(int folder) throws IndexOutOfBoundsException {
        checkFolder(folder);
        int before = folders[folder].size;
        folders[folder].size = 0;
        return before;
    }

    public String question(int folder) throws IndexOutOfBoundsException {
        checkFolder(folder);
        writeQuestion(folder);
        return draft.asText();
    }

    private int writeQuestion(int folder) {
        Conditions question = folders[folder];
        draft.clear();
        for (int i = 0; i < question.size; i++) {
            if (i > 0) {
                draft.put('&');
            }
            if (question.marks[i]) {
                draft.put('!');
            }
            draft.putNumber(question.kinds[i]);
            draft.put(':');
            draft.putNumber(question.values[i]);
        }
        return draft.size;
    }

    public String holds(int store, int folder) throws IndexOutOfBoundsException {
        if (!isStore(store) || folder < 0 || folder >= FOLDERS) {
            throw new IndexOutOfBoundsException("no such store or folder");
        }
        writeHolds(store, folder);
        return draft.asText();
    }

    private int writeHolds(int store, int folder) {
        draft.clear();
        for (int i = 0; i < shelf.count; i++) {
            if (stores[store].isHeld(i) && isInFolder(store, i, folder)) {
                draft.putNext(i);
            }
        }
        return draft.size;
    }

    private boolean isInFolder(int store, int letter, int folder) {
        Conditions question = folders[folder];
        for (int i = 0; i < question.size; i++) {
            if (fits(store, letter, question.kinds[i], question.values[i]) == question.marks[i]) {
                return false;
            }
        }
        return true;
    }

    // Lists, and what goes out

    private static boolean isList(int list) {
        return list >= 0 && list < LISTS;
    }

    public int member(int list, boolean isList, int number, boolean isIn)
            throws IndexOutOfBoundsException, IllegalArgumentException {
        if (!isList(list)) {
            throw new IndexOutOfBoundsException("no such list");
        }
        if (!isAddress(number) || (isList && !isList(number))) {
            throw new IllegalArgumentException("no such member");
        }
        lists.tell(list, isList, number, isIn);
        return lists.members(list);
    }

    public int reached(int list) throws IndexOutOfBoundsException {
        if (!isList(list)) {
            throw new IndexOutOfBoundsException("no such list");
        }
        return lists.addressesBelow(list);
    }

    public int send(int letter, int list) throws IndexOutOfBoundsException {
        if (!shelf.has(letter) || !isList(list)) {
            throw new IndexOutOfBoundsException("no such letter or list");
        }
        int set = lists.addressesBelow(list);
        int more = Integer.bitCount(set);
        if (row.size + more > ENVELOPES_LIMIT) {
            return TOO_MUCH;
        }
        for (int i = 0; i < ADDRESSES; i++) {
            if (((set >> i) & 1) == 1) {
                row.add(letter, i, 0, clock);
            }
        }
        return more;
    }

    public int down(int address, boolean isDown) throws IndexOutOfBoundsException {
        if (!isAddress(address)) {
            throw new IndexOutOfBoundsException("no such address");
        }
        int before = (row.down >> address) & 1;
        int bit = 1 << address;
        row.down = isDown ? row.down | bit : row.down & ~bit;
        return before;
    }

    public int tick(int minutes) throws IllegalArgumentException, IllegalStateException {
        if (minutes < 1 || minutes > 60) {
            throw new IllegalArgumentException("minutes are 1 to 60");
        }
        if (clock + minutes > CLOCK_LIMIT) {
            throw new IllegalStateException("the clock would be above 9999");
        }
        int before = row.arrived;
        for (int i = 0; i < minutes; i++) {
            clock++;
            row.tryAll(clock);
        }
        return row.arrived - before;
    }

    public int ofOut(int place, int what) throws IndexOutOfBoundsException, IllegalArgumentException {
        if (place < 0 || place >= row.size) {
            throw new IndexOutOfBoundsException("no envelope there");
        }
        switch (what) {
            case 0:
                return row.letters[place];
            case 1:
                return row.addresses[place];
            case 2:
                return row.tries[place];
            case 3:
                return row.due[place];
            default:
                throw new IllegalArgumentException("what is 0 to 3");
        }
    }

    public int knock() {
        knocks++;
        return knocks;
    }

    public int house(int what) throws IllegalArgumentException {
        switch (what) {
            case 0:
                return shelf.count;
            case 1:
                return clock;
            case 2:
                return rules.size;
            case 3:
                return row.size;
            case 4:
                return row.arrived;
            case 5:
                return row.bounced;
            case 6:
                return tape.size;
            case 7:
                return knocks;
            case 8:
                return allConditions();
            default:
                throw new IllegalArgumentException("what is 0 to 8");
        }
    }

    private int allConditions() {
        int all = 0;
        for (int i = 0; i < FOLDERS; i++) {
            all += folders[i].size;
        }
        return all;
    }

    public boolean isSound() {
        for (int i = 0; i < shelf.count; i++) {
            char[] signs = shelf.letters[i].signs;
            reading.open(signs, signs.length);
            if (Reading.firstWrong(reading, 0, reading.lines, 0) != NONE) {
                return false;
            }
        }
        for (int i = 0; i < STORES; i++) {
            if (!stores[i].isApart() || !areThreadsSound(stores[i])) {
                return false;
            }
        }
        return shelf.areNamesApart() && comesBackFromCode(false) && comesBackFromCode(true) && comesBackFromQuotes();
    }

    private boolean areThreadsSound(Store store) {
        store.countVisits();
        for (int i = 0; i < shelf.count; i++) {
            if (store.isHeld(i)) {
                int parent = store.parent[i];
                boolean isEarlier = parent == NONE
                        || (shelf.has(parent) && shelf.letters[parent].name < shelf.letters[i].name);
                if (!isEarlier || store.visits[i] != 1) {
                    return false;
                }
            }
        }
        return true;
    }

    private boolean comesBackFromCode(boolean isB) {
        writeInCode(isB, draft);
        return readFromCode(draft, isB, proof) && proof.isSame(tape);
    }

    private boolean comesBackFromQuotes() {
        quoteInto(draft);
        unquoteInto(draft, proof);
        return proof.isSame(tape);
    }

    public long digest() {
        long d = 5802;
        for (int what = 0; what <= 8; what++) {
            d = d * 31 + house(what);
        }
        d = d * 31 + fault();
        d = d * 31 + addresses();
        for (int i = 0; i < shelf.count; i++) {
            d = withLetter(d, i);
        }
        for (int i = 0; i < STORES; i++) {
            d = withStore(d, i);
        }
        for (int i = 0; i < FOLDERS; i++) {
            d = d * 31 + writeQuestion(i);
        }
        for (int i = 0; i < LISTS; i++) {
            d = d * 31 + reached(i);
        }
        for (int i = 0; i < row.size; i++) {
            for (int what = 0; what <= 3; what++) {
                d = d * 31 + ofOut(i, what);
            }
        }
        return d * 31 + (isSound() ? 1 : 0);
    }

    private long withLetter(long start, int letter) {
        long d = start;
        for (int what = 0; what <= 9; what++) {
            d = d * 31 + ofLetter(letter, what);
        }
        for (int what = 0; what <= 5; what++) {
            d = d * 31 + writeText(letter, what);
        }
        int leaves = shelf.letters[letter].leafCount();
        for (int nth = 0; nth < leaves; nth++) {
            for (int what = 0; what < LEAF_FACTS; what++) {
                d = d * 31 + leaf(letter, nth, what);
            }
        }
        return d;
    }

    private long withStore(long start, int store) {
        long d = start;
        for (int what = 0; what <= 10; what++) {
            d = d * 31 + ofStore(store, what);
        }
        for (int i = 0; i < shelf.count; i++) {
            for (int what = 0; what <= 6; what++) {
                d = d * 31 + held(store, i, what);
            }
            d = d * 31 + writeThread(store, i);
        }
        for (int i = 0; i < FOLDERS; i++) {
            d = d * 31 + writeHolds(store, i);
        }
        for (int i = 0; i < BOXES; i++) {
            d = d * 31 + writeBox(store, i);
        }
        return d * 31 + writeSince(store, 3);
    }

    /** Signs in a row that is used again and again, so that calls make no new ones. */
    private static final class Tape {
        final char[] cells;
        int size;

        Tape(int room) {
            cells = new char[Math.max(room, 0)];
        }

        void clear() {
            size = 0;
        }

        void cut(int newSize) {
            size = Math.max(0, Math.min(size, newSize));
        }

        void put(char sign) {
            if (size < cells.length) {
                cells[size] = sign;
                size++;
            }
        }

        void putText(String text) {
            for (int i = 0; i < text.length(); i++) {
                put(text.charAt(i));
            }
        }

        void putRange(char[] signs, int from, int to) {
            int end = Math.min(to, signs.length);
            for (int i = Math.max(from, 0); i < end; i++) {
                put(signs[i]);
            }
        }

        /** Puts a number from 0 on. */
        void putNumber(int number) {
            int unit = 1;
            for (int i = 0; i < 9 && number / unit >= 10; i++) {
                unit *= 10;
            }
            for (int i = 0; i < 10 && unit > 0; i++) {
                put((char) ('0' + number / unit % 10));
                unit /= 10;
            }
        }

        /** Puts a number, with a blank ahead if it is not the first one. */
        void putNext(int number) {
            if (size > 0) {
                put(' ');
            }
            putNumber(number);
        }

        void putInQ(char sign) {
            if (PLAIN_IN_Q.indexOf(sign) >= 0) {
                put(sign);
            } else {
                put('=');
                put(DIGITS_OF_Q.charAt((sign >> 4) & 15));
                put(DIGITS_OF_Q.charAt(sign & 15));
            }
        }

        void putInB(char sign) {
            put(DIGITS_OF_B.charAt((sign >> 4) & 15));
            put(DIGITS_OF_B.charAt(sign & 15));
        }

        /** Puts the octets of a line of that kind; answers false if it can not be read so. */
        boolean putRead(char[] signs, int from, int to, int kind) {
            if (kind == KIND_B) {
                return putReadFromB(signs, from, to);
            }
            if (kind == KIND_C) {
                return putReadFromQ(signs, from, to);
            }
            putRange(signs, from, to);
            return true;
        }

        private boolean putReadFromQ(char[] signs, int from, int to) {
            int end = Math.min(to, signs.length);
            int i = Math.max(from, 0);
            while (i < end) {
                if (signs[i] != '=') {
                    put(signs[i]);
                    i++;
                } else {
                    int octet = end - i < 3 ? NONE : octetOf(DIGITS_OF_Q, signs[i + 1], signs[i + 2]);
                    if (octet == NONE) {
                        return false;
                    }
                    put((char) octet);
                    i += 3;
                }
            }
            return true;
        }

        private boolean putReadFromB(char[] signs, int from, int to) {
            int end = Math.min(to, signs.length);
            int start = Math.max(from, 0);
            if ((end - start) % 2 != 0) {
                return false;
            }
            for (int i = start; i + 1 < end; i += 2) {
                int octet = octetOf(DIGITS_OF_B, signs[i], signs[i + 1]);
                if (octet == NONE) {
                    return false;
                }
                put((char) octet);
            }
            return true;
        }

        private static int octetOf(String digits, char first, char second) {
            int high = digits.indexOf(first);
            int low = digits.indexOf(second);
            return high < 0 || low < 0 ? NONE : high * 16 + low;
        }

        char signAt(int place) {
            return place >= 0 && place < size ? cells[place] : 0;
        }

        boolean isLineEnd(int place) {
            return place >= size || signAt(place) == '|';
        }

        boolean isLineStart(int place) {
            return place == 0 || signAt(place - 1) == '|';
        }

        int lines() {
            int lines = 1;
            for (int i = 0; i < size; i++) {
                if (cells[i] == '|') {
                    lines++;
                }
            }
            return lines;
        }

        int startOfLine(int line) {
            int left = line;
            for (int i = 0; i < size; i++) {
                if (left == 0) {
                    return i;
                }
                if (cells[i] == '|') {
                    left--;
                }
            }
            return size;
        }

        void copy(Tape other) {
            clear();
            putRange(other.cells, 0, other.size);
        }

        boolean isSame(Tape other) {
            return size == other.size && isAt(other.cells, 0);
        }

        boolean isLike(char[] signs) {
            return size == signs.length && isAt(signs, 0);
        }

        boolean isIn(char[] signs) {
            for (int i = 0; i + size <= signs.length; i++) {
                if (isAt(signs, i)) {
                    return true;
                }
            }
            return false;
        }

        private boolean isAt(char[] signs, int place) {
            if (place < 0 || place + size > signs.length) {
                return false;
            }
            for (int i = 0; i < size; i++) {
                if (cells[i] != signs[place + i]) {
                    return false;
                }
            }
            return true;
        }

        void trimEnd() {
            for (int i = size - 1; i >= 0 && cells[i] == ' '; i--) {
                size = i;
            }
        }

        char[] copyOut() {
            char[] exact = new char[size];
            System.arraycopy(cells, 0, exact, 0, size);
            return exact;
        }

        String asText() {
            return new String(copyOut());
        }
    }

    /** Reads a text as an address list. */
    private static final class AddressList {
        /** The text without its comments, and in it where the addresses stand. */
        final char[] bare = new char[SIGNS_LIMIT];
        final int[] starts = new int[LISTED_LIMIT];
        final int[] hosts = new int[LISTED_LIMIT];
        final int[] ends = new int[LISTED_LIMIT];
        int size;
        int count;
        int groups;

        /** Whether the text is a list; then its addresses are told by the fields. */
        boolean read(char[] signs, int length) {
            count = 0;
            groups = 0;
            if (!strip(signs, length)) {
                return false;
            }
            if (isBlank(0, size)) {
                return true;
            }
            int start = 0;
            boolean isInGroup = false;
            boolean isBehindGroup = false;
            int countAhead = 0;
            for (int i = 0; i <= size; i++) {
                char sign = i < size ? bare[i] : ',';
                if (sign == ':') {
                    if (isInGroup || isBehindGroup || firstMark(start, i) != i) {
                        return false;
                    }
                    isInGroup = true;
                    groups++;
                    countAhead = count;
                    start = i + 1;
                } else if (sign == ';') {
                    boolean isEmptyGroup = count == countAhead && isBlank(start, i);
                    if (!isInGroup || (!isEmptyGroup && !addMailbox(start, i))) {
                        return false;
                    }
                    isInGroup = false;
                    isBehindGroup = true;
                    start = i + 1;
                } else if (sign == ',') {
                    if (isBehindGroup ? !isBlank(start, i) : !addMailbox(start, i)) {
                        return false;
                    }
                    isBehindGroup = false;
                    start = i + 1;
                }
            }
            return !isInGroup;
        }

        /** Leaves the comments out; answers false if a parenthesis is in none. */
        private boolean strip(char[] signs, int length) {
            size = 0;
            int open = 0;
            for (int i = 0; i < length && i < signs.length; i++) {
                if (signs[i] == '(') {
                    open++;
                } else if (signs[i] == ')') {
                    open--;
                    if (open < 0) {
                        return false;
                    }
                } else if (open == 0 && size < bare.length) {
                    bare[size] = signs[i];
                    size++;
                }
            }
            return open == 0;
        }

        private boolean isBlank(int from, int to) {
            for (int i = from; i < to; i++) {
                if (bare[i] != ' ') {
                    return false;
                }
            }
            return true;
        }

        /** Where the first sign stands that no phrase has, or the end. */
        private int firstMark(int from, int to) {
            for (int i = from; i < to; i++) {
                if (bare[i] == '<' || bare[i] == '>' || bare[i] == '@') {
                    return i;
                }
            }
            return to;
        }

        private boolean addMailbox(int from, int to) {
            int first = from;
            int end = to;
            while (first < end && bare[first] == ' ') {
                first++;
            }
            while (end > first && bare[end - 1] == ' ') {
                end--;
            }
            if (end > first && bare[end - 1] == '>') {
                int open = firstMark(first, end);
                if (bare[open] != '<') {
                    return false;
                }
                first = open + 1;
                end--;
            }
            return addAddress(first, end);
        }

        private boolean addAddress(int first, int end) {
            int at = NONE;
            for (int i = first; i < end; i++) {
                char sign = bare[i];
                boolean isLetter = sign >= 'a' && sign <= 'h';
                boolean isDigit = sign >= '0' && sign <= '9';
                if (sign == '@' && at == NONE) {
                    at = i;
                } else if (!isLetter && !isDigit && sign != '-') {
                    return false;
                }
            }
            if (at <= first || at >= end - 1 || count >= LISTED_LIMIT) {
                return false;
            }
            starts[count] = first;
            hosts[count] = at + 1;
            ends[count] = end;
            count++;
            return true;
        }

        /** Puts the addresses with a blank between two. */
        void putAll(Tape out) {
            for (int i = 0; i < count; i++) {
                if (i > 0) {
                    out.put(' ');
                }
                out.putRange(bare, starts[i], ends[i]);
            }
        }
    }

    /** Reads a text as a letter, line by line. */
    private static final class Reading {
        final AddressList list = new AddressList();
        /** The value of the head that was taken last, and the octets of the leaf that was read last. */
        final Tape value = new Tape(SIGNS_LIMIT);
        final Tape octets = new Tape(SIGNS_LIMIT);
        final int[] starts = new int[SIGNS_LIMIT + 2];
        final int[] ends = new int[SIGNS_LIMIT + 2];
        final int[] refs = new int[SIGNS_LIMIT];
        final int[] leaves = new int[LEAVES_LIMIT * LEAF_FACTS];
        char[] signs = new char[0];
        int size;
        int lines;
        int refCount;
        int leafCount;
        int kind;
        int border;

        void open(char[] text, int length) {
            signs = text;
            size = Math.min(Math.min(length, text.length), SIGNS_LIMIT);
            leafCount = 0;
            lines = 0;
            int start = 0;
            for (int i = 0; i <= size; i++) {
                if (i == size || signs[i] == '|') {
                    starts[lines] = start;
                    ends[lines] = i;
                    lines++;
                    start = i + 1;
                }
            }
        }

        /** The first wrong line of a letter or part; without one its leaves are told by the fields. */
        private static int firstWrong(Reading r, int first, int end, int level) {
            int headEnd = r.headEnd(first, end);
            int wrong = r.wrongHead(first, headEnd, level);
            if (wrong != NONE) {
                return wrong;
            }
            int body = Math.min(headEnd + 1, end);
            if (r.kind != KIND_D) {
                return r.wrongInLeaf(body, end, level);
            }
            int border = r.border;
            int open = r.borderLine(body, end, border, false);
            int close = open == NONE ? NONE : r.borderLine(open + 1, end, border, true);
            if (close == NONE || level >= PARTS_DEPTH) {
                return end;
            }
            int part = open + 1;
            for (int line = open + 1; line <= close; line++) {
                if (line == close || r.isBorderLine(line, border, false)) {
                    wrong = firstWrong(r, part, line, level + 1);
                    if (wrong != NONE) {
                        return wrong;
                    }
                    part = line + 1;
                }
            }
            return NONE;
        }

        private int headEnd(int first, int end) {
            for (int line = first; line < end; line++) {
                if (starts[line] == ends[line]) {
                    return line;
                }
            }
            return end;
        }

        /** The first wrong line of the heads; without one their kind and border are told by the fields. */
        private int wrongHead(int first, int end, int level) {
            int seen = 0;
            kind = KIND_A;
            border = NONE;
            for (int line = first; line < end; line++) {
                if (line > first && isBlankFirst(line)) {
                    continue;
                }
                int name = nameOf(line);
                if (name == NONE || (name != HEAD_X && ((seen >> name) & 1) == 1)) {
                    return line;
                }
                seen |= 1 << name;
                takeValue(line, end);
                if (!isGoodValue(name, level)) {
                    return line;
                }
            }
            return level == 0 && (seen & NEEDED_HEADS) != NEEDED_HEADS ? end : NONE;
        }

        private boolean isBlankFirst(int line) {
            return starts[line] < ends[line] && signs[starts[line]] == ' ';
        }

        /** The number of the name of the head that begins with that line. */
        private int nameOf(int line) {
            int start = starts[line];
            if (ends[line] - start < 2 || signs[start + 1] != ':') {
                return NONE;
            }
            return HEAD_NAMES.indexOf(signs[start]);
        }

        private void takeValue(int line, int end) {
            value.clear();
            putTrimmed(starts[line] + 2, ends[line]);
            for (int i = line + 1; i < end && isBlankFirst(i); i++) {
                putTrimmed(starts[i], ends[i]);
            }
            value.trimEnd();
        }

        /** Puts signs into the value, but for blanks at its beginning. */
        private void putTrimmed(int from, int to) {
            for (int i = from; i < to; i++) {
                if (value.size > 0 || signs[i] != ' ') {
                    value.put(signs[i]);
                }
            }
        }

        private boolean isGoodValue(int name, int level) {
            switch (name) {
                case HEAD_F:
                    return list.read(value.cells, value.size) && list.count == 1 && list.groups == 0;
                case HEAD_T:
                    return list.read(value.cells, value.size);
                case HEAD_I:
                    return number(value.cells, 0, value.size) != NONE;
                case HEAD_R:
                    return readRefs();
                case HEAD_K:
                    return readKind(level);
                default:
                    return true;
            }
        }

        private boolean readRefs() {
            refCount = 0;
            int start = 0;
            for (int i = 0; i <= value.size; i++) {
                if (i < value.size && value.cells[i] != ' ') {
                    continue;
                }
                if (start < i) {
                    int ref = number(value.cells, start, i);
                    if (ref == NONE || refCount >= refs.length) {
                        return false;
                    }
                    refs[refCount] = ref;
                    refCount++;
                }
                start = i + 1;
            }
            return true;
        }

        private boolean readKind(int level) {
            char first = value.signAt(0);
            if (value.size == 1) {
                kind = first == 'c' ? KIND_C : first == 'b' ? KIND_B : KIND_A;
                return first == 'a' || first == 'b' || first == 'c';
            }
            kind = KIND_D;
            border = number(value.cells, 1, value.size);
            return first == 'd' && border != NONE && level < PARTS_DEPTH;
        }

        /** The number that stands there, or NONE. */
        private static int number(char[] signs, int from, int to) {
            int length = to - from;
            if (from < 0 || to > signs.length || length < 1 || length > 3 || (length > 1 && signs[from] == '0')) {
                return NONE;
            }
            int number = 0;
            for (int i = from; i < to; i++) {
                if (signs[i] < '0' || signs[i] > '9') {
                    return NONE;
                }
                number = number * 10 + signs[i] - '0';
            }
            return number;
        }

        private int borderLine(int first, int end, int number, boolean isLast) {
            for (int line = first; line < end; line++) {
                if (isBorderLine(line, number, isLast)) {
                    return line;
                }
            }
            return NONE;
        }

        private boolean isBorderLine(int line, int number, boolean isLast) {
            int start = starts[line];
            int end = ends[line];
            if (end - start < 3 || signs[start] != '-' || signs[start + 1] != '-') {
                return false;
            }
            if (isLast && signs[end - 1] != '-') {
                return false;
            }
            return number(signs, start + 2, isLast ? end - 1 : end) == number;
        }

        /** The first line of a body that its kind can not read; without one it becomes a leaf. */
        private int wrongInLeaf(int first, int end, int level) {
            octets.clear();
            for (int line = first; line < end; line++) {
                if (line > first) {
                    octets.put('|');
                }
                if (!octets.putRead(signs, starts[line], ends[line], kind)) {
                    return line;
                }
            }
            addLeaf(level);
            return NONE;
        }

        private void addLeaf(int level) {
            if (leafCount >= LEAVES_LIMIT) {
                return;
            }
            int sum = 0;
            for (int i = 0; i < octets.size; i++) {
                sum += (i + 1) * octets.cells[i];
            }
            int at = leafCount * LEAF_FACTS;
            boolean isEmpty = octets.size == 0;
            leaves[at] = octets.size;
            leaves[at + 1] = sum;
            leaves[at + 2] = isEmpty ? NONE : octets.signAt(0);
            leaves[at + 3] = isEmpty ? NONE : octets.signAt(octets.size - 1);
            leaves[at + 4] = level;
            leafCount++;
        }

        /** Takes the value of the first head of the letter with that name, "" without one. */
        void takeHead(int name) {
            int end = headEnd(0, lines);
            value.clear();
            for (int line = 0; line < end; line++) {
                if (nameOf(line) == name) {
                    takeValue(line, end);
                    return;
                }
            }
        }

        int numberIn(int name) {
            takeHead(name);
            return number(value.cells, 0, value.size);
        }

        char[] textIn(int name) {
            takeHead(name);
            return value.copyOut();
        }

        /** The addresses of that head, with a blank between two. */
        char[] addressesIn(int name) {
            takeHead(name);
            if (list.read(value.cells, value.size)) {
                value.clear();
                list.putAll(value);
            }
            return value.copyOut();
        }

        int[] refsIn() {
            takeHead(HEAD_R);
            return copyOf(refs, readRefs() ? refCount : 0);
        }

        int borderIn() {
            takeHead(HEAD_K);
            return value.signAt(0) == 'd' ? number(value.cells, 1, value.size) : NONE;
        }

        int heads() {
            int end = headEnd(0, lines);
            int heads = 0;
            for (int line = 0; line < end; line++) {
                heads += nameOf(line) == NONE ? 0 : 1;
            }
            return heads;
        }

        int bodyLines() {
            return Math.max(0, lines - headEnd(0, lines) - 1);
        }

        int bodyStart() {
            int first = headEnd(0, lines) + 1;
            return first < lines ? starts[first] : size;
        }

        char[] signsOut() {
            char[] exact = new char[size];
            System.arraycopy(signs, 0, exact, 0, size);
            return exact;
        }

        int[] leavesOut() {
            return copyOf(leaves, leafCount * LEAF_FACTS);
        }

        private static int[] copyOf(int[] numbers, int count) {
            int length = Math.max(0, Math.min(count, numbers.length));
            int[] exact = new int[length];
            System.arraycopy(numbers, 0, exact, 0, length);
            return exact;
        }
    }

    /** What is known of a letter from its text. */
    private static final class Letter {
        final char[] signs;
        final int name;
        final int time;
        final int heads;
        final int border;
        final int bodyAt;
        final int bodyLines;
        final char[] from;
        final int hostAt;
        final char[] to;
        final int toCount;
        final char[] subject;
        final int baseAt;
        final char[] extra;
        final int[] refs;
        final int[] leaves;
        /** The number of the first letter with the same base. */
        int family;

        /** The letter whose text was read last, and had no fault. */
        Letter(Reading reading, int clock) {
            signs = reading.signsOut();
            leaves = reading.leavesOut();
            name = reading.numberIn(HEAD_I);
            time = clock;
            heads = reading.heads();
            border = reading.borderIn();
            bodyAt = reading.bodyStart();
            bodyLines = reading.bodyLines();
            from = reading.addressesIn(HEAD_F);
            hostAt = placeBehindAt(from);
            to = reading.addressesIn(HEAD_T);
            toCount = reading.list.count;
            subject = reading.textIn(HEAD_S);
            baseAt = baseOf(subject);
            extra = reading.textIn(HEAD_X);
            refs = reading.refsIn();
        }

        private static int placeBehindAt(char[] address) {
            for (int i = 0; i < address.length; i++) {
                if (address[i] == '@') {
                    return i + 1;
                }
            }
            return address.length;
        }

        private static int baseOf(char[] subject) {
            int place = 0;
            boolean isDone = false;
            while (!isDone && place < subject.length) {
                if (subject[place] == ' ') {
                    place++;
                } else if (isPrefix(subject, place)) {
                    place += 2;
                } else {
                    isDone = true;
                }
            }
            return Math.min(place, subject.length);
        }

        private static boolean isPrefix(char[] subject, int place) {
            return place >= 0 && place + 1 < subject.length && subject[place + 1] == ':'
                    && (subject[place] == 'a' || subject[place] == 'f');
        }

        boolean answers() {
            return isPrefix(subject, 0) && subject[0] == 'a';
        }

        boolean hasBase() {
            return baseAt < subject.length;
        }

        boolean hasBaseOf(Letter other) {
            int length = subject.length - baseAt;
            if (length != other.subject.length - other.baseAt) {
                return false;
            }
            for (int i = 0; i < length; i++) {
                if (subject[baseAt + i] != other.subject[other.baseAt + i]) {
                    return false;
                }
            }
            return true;
        }

        boolean subjectHas(int value) {
            for (int i = 0; i < subject.length; i++) {
                if (isWordLetter(subject, i, value)) {
                    return true;
                }
            }
            return false;
        }

        boolean refersTo(int value) {
            for (int i = 0; i < refs.length; i++) {
                if (refs[i] == value) {
                    return true;
                }
            }
            return false;
        }

        boolean isTo(int value) {
            for (int i = 0; i < to.length; i++) {
                if ((i == 0 || to[i - 1] == ' ') && isWordLetter(to, i, value)) {
                    return true;
                }
            }
            return false;
        }

        int leafCount() {
            return leaves.length / LEAF_FACTS;
        }

        char[] textOf(int what) {
            switch (what) {
                case 0:
                    return signs;
                case 1:
                    return from;
                case 2:
                case 3:
                    return subject;
                case 4:
                    return extra;
                default:
                    return to;
            }
        }
    }

    /** All letters that ever came, by their numbers and by their names. */
    private static final class Shelf {
        final Letter[] letters = new Letter[LETTERS_LIMIT];
        final int[] byName = new int[LETTERS_LIMIT];
        /** By its name, the number of a letter and 1 more; 0 without one. */
        private final int[] numbers = new int[NUMBERS];
        int count;

        boolean has(int letter) {
            return letter >= 0 && letter < count;
        }

        int numberOf(int name) {
            return name >= 0 && name < NUMBERS ? numbers[name] - 1 : NONE;
        }

        /** Adds a letter; there have to be less than 30, and none with that name. */
        int add(Letter letter) {
            if (count >= LETTERS_LIMIT || letter.name < 0 || letter.name >= NUMBERS) {
                return NONE;
            }
            int number = count;
            letter.family = number;
            for (int i = number - 1; i >= 0; i--) {
                if (letters[i].hasBaseOf(letter)) {
                    letter.family = letters[i].family;
                }
            }
            int place = number;
            while (place > 0 && letters[byName[place - 1]].name > letter.name) {
                byName[place] = byName[place - 1];
                place--;
            }
            byName[place] = number;
            letters[number] = letter;
            numbers[letter.name] = number + 1;
            count++;
            return number;
        }

        boolean areNamesApart() {
            for (int i = 0; i < count; i++) {
                for (int k = 0; k < i; k++) {
                    if (letters[i].name == letters[k].name) {
                        return false;
                    }
                }
            }
            return true;
        }
    }

    /** What a store holds, by the numbers of the letters. */
    private static final class Store {
        /** 0 for a letter that is not held. */
        final int[] place = new int[LETTERS_LIMIT];
        final int[] flags = new int[LETTERS_LIMIT];
        final int[] stamps = new int[LETTERS_LIMIT];
        final int[] boxes = new int[LETTERS_LIMIT];
        final int[] byPlace = new int[LETTERS_LIMIT];
        final int[] parent = new int[LETTERS_LIMIT];
        final int[] firstChild = new int[LETTERS_LIMIT];
        final int[] nextChild = new int[LETTERS_LIMIT];
        final int[] visits = new int[LETTERS_LIMIT];
        int held;
        int signs;
        int quota = 600;
        int count;
        int places;
        int thrown;

        boolean isHeld(int letter) {
            return letter >= 0 && letter < LETTERS_LIMIT && place[letter] > 0;
        }

        void come(int letter, int size, int newFlags) {
            if (letter < 0 || letter >= LETTERS_LIMIT || held >= LETTERS_LIMIT || isHeld(letter)) {
                return;
            }
            places++;
            place[letter] = places;
            flags[letter] = newFlags;
            stamp(letter);
            byPlace[held] = letter;
            held++;
            signs += size;
        }

        private void stamp(int letter) {
            count++;
            stamps[letter] = count;
        }

        void leave(int letter, int size) {
            if (!isHeld(letter)) {
                return;
            }
            int kept = 0;
            for (int i = 0; i < held; i++) {
                if (byPlace[i] != letter) {
                    byPlace[kept] = byPlace[i];
                    kept++;
                }
            }
            held = kept;
            place[letter] = 0;
            flags[letter] = 0;
            boxes[letter] = 0;
            count++;
            signs -= size;
        }

        /** Tells 1 if these are other flags than before, otherwise 0. */
        int setFlags(int letter, int newFlags) {
            if (!isHeld(letter) || flags[letter] == newFlags) {
                return 0;
            }
            flags[letter] = newFlags;
            stamp(letter);
            return 1;
        }

        int firstToThrow() {
            int best = NONE;
            for (int i = 0; i < held; i++) {
                int letter = byPlace[i];
                if (best == NONE || rank(letter) < rank(best)) {
                    best = letter;
                }
            }
            return best;
        }

        private int rank(int letter) {
            if ((flags[letter] & GONE) != 0) {
                return 0;
            }
            if ((flags[letter] & MARKED) != 0) {
                return 3;
            }
            return (flags[letter] & SEEN) != 0 ? 1 : 2;
        }

        void unlink() {
            for (int i = 0; i < LETTERS_LIMIT; i++) {
                parent[i] = NONE;
                firstChild[i] = NONE;
                nextChild[i] = NONE;
            }
        }

        void link(int letter, int newParent) {
            if (isHeld(letter) && isHeld(newParent)) {
                parent[letter] = newParent;
                nextChild[letter] = firstChild[newParent];
                firstChild[newParent] = letter;
            }
        }

        int rootOf(int letter) {
            int root = letter;
            for (int i = 0; i < LETTERS_LIMIT && isHeld(root) && parent[root] != NONE; i++) {
                root = parent[root];
            }
            return root;
        }

        int threads() {
            int threads = 0;
            for (int i = 0; i < held; i++) {
                threads += parent[byPlace[i]] == NONE ? 1 : 0;
            }
            return threads;
        }

        int flagged(int which) {
            int flagged = 0;
            for (int i = 0; i < held; i++) {
                flagged += (flags[byPlace[i]] >> which) & 1;
            }
            return flagged;
        }

        int heldAhead(int letter) {
            int ahead = 0;
            for (int i = 0; i < held && byPlace[i] != letter; i++) {
                ahead++;
            }
            return ahead;
        }

        /** From how many letters one comes to that one. */
        int comingTo(int letter) {
            int coming = 0;
            for (int i = 0; i < held; i++) {
                coming += comesTo(byPlace[i], letter) ? 1 : 0;
            }
            return coming;
        }

        private boolean comesTo(int from, int letter) {
            int here = from;
            for (int i = 0; i < LETTERS_LIMIT && isHeld(here); i++) {
                here = parent[here];
                if (here == letter) {
                    return true;
                }
            }
            return false;
        }

        /** The letter with the smallest stamp above that one. */
        int nextStamp(int above) {
            int next = NONE;
            for (int i = 0; i < held; i++) {
                int letter = byPlace[i];
                if (stamps[letter] > above && (next == NONE || stamps[letter] < stamps[next])) {
                    next = letter;
                }
            }
            return next;
        }

        private static void putBranch(Store store, int letter, Tape out, int level) {
            if (level >= LETTERS_LIMIT || !store.isHeld(letter)) {
                return;
            }
            out.putNumber(letter);
            int child = store.firstChild[letter];
            if (child == NONE) {
                return;
            }
            out.put('(');
            for (int i = 0; i < LETTERS_LIMIT && store.isHeld(child); i++) {
                if (i > 0) {
                    out.put(' ');
                }
                putBranch(store, child, out, level + 1);
                child = store.nextChild[child];
            }
            out.put(')');
        }

        void countVisits() {
            for (int i = 0; i < LETTERS_LIMIT; i++) {
                visits[i] = 0;
            }
            for (int i = 0; i < held; i++) {
                if (parent[byPlace[i]] == NONE) {
                    visitBranch(this, byPlace[i], 0);
                }
            }
        }

        private static void visitBranch(Store store, int letter, int level) {
            if (level >= LETTERS_LIMIT || !store.isHeld(letter)) {
                return;
            }
            store.visits[letter]++;
            int child = store.firstChild[letter];
            for (int i = 0; i < LETTERS_LIMIT && store.isHeld(child); i++) {
                visitBranch(store, child, level + 1);
                child = store.nextChild[child];
            }
        }

        /** Whether quota, places, stamps and boxes are as they have to be. */
        boolean isApart() {
            for (int i = 0; i < held; i++) {
                for (int k = 0; k < i; k++) {
                    int one = byPlace[i];
                    int other = byPlace[k];
                    if (place[one] == place[other] || stamps[one] == stamps[other]) {
                        return false;
                    }
                }
            }
            for (int i = 0; i < LETTERS_LIMIT; i++) {
                if (boxes[i] != 0 && !isHeld(i)) {
                    return false;
                }
            }
            return signs <= quota;
        }
    }

    /** Rules, or the conditions of a folder. */
    private static final class Conditions {
        final int[] kinds;
        final int[] values;
        final int[] boxes;
        /** A rule's stop, or a condition's not. */
        final boolean[] marks;
        int size;

        Conditions(int limit) {
            int room = Math.max(limit, 0);
            kinds = new int[room];
            values = new int[room];
            boxes = new int[room];
            marks = new boolean[room];
        }

        void add(int kind, int value, int box, boolean mark) {
            if (size < kinds.length) {
                kinds[size] = kind;
                values[size] = value;
                boxes[size] = box;
                marks[size] = mark;
                size++;
            }
        }

        void removeLast() {
            size = Math.max(0, size - 1);
        }
    }

    /** The members of the lists, as sets of bits. */
    private static final class Lists {
        private final int[] addresses = new int[LISTS];
        private final int[] lists = new int[LISTS];

        void tell(int list, boolean isList, int number, boolean isIn) {
            int[] sets = isList ? lists : addresses;
            int bit = 1 << number;
            sets[list] = isIn ? sets[list] | bit : sets[list] & ~bit;
        }

        int members(int list) {
            return Integer.bitCount(addresses[list]) + Integer.bitCount(lists[list]);
        }

        int addressesBelow(int list) {
            int found = 1 << list;
            int set = 0;
            // a way from one list to another goes over each one once at most
            for (int turn = 0; turn < LISTS; turn++) {
                for (int i = 0; i < LISTS; i++) {
                    if (((found >> i) & 1) == 1) {
                        found |= lists[i];
                        set |= addresses[i];
                    }
                }
            }
            return set;
        }
    }

    /** The envelopes that stand in the row. */
    private static final class Row {
        final int[] letters = new int[ENVELOPES_LIMIT];
        final int[] addresses = new int[ENVELOPES_LIMIT];
        final int[] tries = new int[ENVELOPES_LIMIT];
        final int[] due = new int[ENVELOPES_LIMIT];
        int size;
        /** The set of addresses that are down. */
        int down;
        int arrived;
        int bounced;

        void add(int letter, int address, int triesBefore, int dueAt) {
            if (size < ENVELOPES_LIMIT) {
                letters[size] = letter;
                addresses[size] = address;
                tries[size] = triesBefore;
                due[size] = dueAt;
                size++;
            }
        }

        private void remove(int place) {
            size--;
            for (int i = place; i < size; i++) {
                letters[i] = letters[i + 1];
                addresses[i] = addresses[i + 1];
                tries[i] = tries[i + 1];
                due[i] = due[i + 1];
            }
        }

        /** Tries each one that stands in the row now and is due. */
        void tryAll(int clock) {
            int before = size;
            int place = 0;
            for (int turn = 0; turn < before; turn++) {
                if (due[place] <= clock) {
                    tryOne(place, clock);
                } else {
                    place++;
                }
            }
        }

        private void tryOne(int place, int clock) {
            int letter = letters[place];
            int address = addresses[place];
            int tried = tries[place] + 1;
            remove(place);
            if (((down >> address) & 1) == 0) {
                arrived++;
            } else if (tried >= TRIES_LIMIT) {
                bounced++;
            } else {
                add(letter, address, tried, clock + (1 << tried));
            }
        }
    }
}

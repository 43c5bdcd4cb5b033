/**
 * All that can be seen of a room, as a text: first by asking, then by deeds that bring out what no call
 * tells (rules, members, who is down, the next place). It takes some 200 calls; the room is spent then.
 */
final class Probe {
    private static final int LETTERS_TOLD = 4;

    private final Postroom x;
    private final StringBuilder told = new StringBuilder();

    private Probe(Postroom x) {
        this.x = x;
    }

    static String of(Postroom x) {
        Probe probe = new Probe(x);
        probe.ask();
        probe.goOn();
        return probe.told.toString();
    }

    private void tell(Object answer) {
        told.append(answer).append('\n');
    }

    private void ask() {
        tell(x.typed());
        tell(x.digest());
        for (int i = 0; i < Math.min(x.house(0), LETTERS_TOLD); i++) {
            tell(x.text(i, 0));
            tell(x.thread(0, i));
            tell(x.thread(1, i));
        }
        for (int i = 0; i < 4; i++) {
            tell(x.question(i));
            tell(x.holds(0, i));
            tell(x.holds(1, i));
        }
        tell(x.since(0, 0));
        tell(x.since(1, 0));
        tellBoxes();
    }

    private void tellBoxes() {
        for (int i = 0; i < 4; i++) {
            tell(x.box(0, i));
            tell(x.box(1, i));
        }
    }

    private void goOn() {
        tell(x.rerun(0));
        tell(x.rerun(1));
        tellBoxes();
        for (int i = 0; i < 4; i++) {
            for (int k = 0; k < 16; k++) {
                tell(x.member(i, false, k, true));
            }
            for (int k = 0; k < 4; k++) {
                tell(x.member(i, true, k, true));
            }
        }
        tell(x.house(1) < 9999 ? x.tick(1) : 0);
        for (int i = 0; i < 16; i++) {
            tell(x.down(i, false));
        }
        tell(x.knock());
        tell(x.bring());
        tell(x.quota(0, 200));
        tell(x.digest());
    }
}

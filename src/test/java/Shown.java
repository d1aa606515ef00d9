/** Everything that an object shows, as a text, so that two looks can be compared. */
final class Shown {
    private final CodedCaching object;
    private final StringBuilder text = new StringBuilder();

    private Shown(CodedCaching object) {
        this.object = object;
    }

    /** What it shows when it is only asked. */
    static String by(CodedCaching object) {
        Shown shown = new Shown(object);
        shown.askAll();
        return shown.text.toString();
    }

    /**
     * What it shows when it is used up, too: the letters of the text, the bytes of the sums that were
     * received, the contents, the plans, and what is saved in the slots.
     */
    static String inDepthBy(CodedCaching object) {
        Shown shown = new Shown(object);
        shown.askAll();
        shown.useUp();
        for (int slot = 0; slot < 2; slot++) {
            shown.put(object.restore(slot));
            shown.askAll();
            shown.useUp();
        }
        shown.put(object.run());
        shown.askAll();
        return shown.text.toString();
    }

    private void put(long answer) {
        text.append(answer).append(' ');
    }

    private void askAll() {
        for (int what = 0; what <= 9; what++) {
            put(object.count(what));
        }
        for (int u = 0; u < object.count(1); u++) {
            askUser(u);
        }
        for (int i = -1; i <= 100; i++) {
            put(object.pending(i));
            put(object.sent(i));
        }
        for (int t = 0; t <= object.count(1); t++) {
            put(object.formula(t));
        }
        put(object.bound());
        put(object.rate());
        put(object.sharedRate());
        put(object.fault());
        put(object.why());
        put(object.digest());
        text.append('\n');
    }

    private void askUser(int user) {
        for (int what = 0; what <= 7; what++) {
            put(object.user(user, what));
        }
        put(object.need(user));
        for (int piece = 0; piece < 12 * object.count(0); piece++) {
            put(object.cached(user, piece));
            put(object.decode(user, piece));
            put(object.proof(user, piece));
        }
    }

    private void useUp() {
        // Single pieces let the bytes of the sums that came before them be seen.
        for (int piece = 0; piece < 12 * object.count(0); piece += 5) {
            put(object.setContent(piece, 0));
            put(object.sum(1L << piece));
            put(object.send(0));
        }
        for (int u = 0; u < object.count(1); u++) {
            askUser(u);
            put(object.want(u, CodedCaching.NONE));
        }
        put(object.schedule(0));
        for (int tick = 0; tick < 40 && object.count(5) > 0; tick++) {
            put(object.idle(1));
            emptyCaches();
        }
    }

    private void emptyCaches() {
        for (int u = 0; u < object.count(1); u++) {
            for (int piece = 0; piece < 12 * object.count(0); piece++) {
                put(object.cached(u, piece) == 1 ? object.drop(u, piece) : CodedCaching.NONE);
            }
        }
    }
}

/** Promises 33 to 36: slots, counts, digest. */
public final class SlotsTest {
    private static final String BUSY = "reset(3,3,7); setContent(30,9) = 97; store(0,1); store(2,35); plan(1,2,3); plan(1,4,9);"
            + " plan(0,1,9); idle(2) = 1; want(0,0); want(2,1); leave(1); sum(3); sum(6); sum(24); send(0) = 5; send(1) = 4;"
            + " plan(2,2,2);";

    public static void main(String[] args) {
        save();
        restore();
        everythingIsRestored();
        count();
        digest();
        Run.end();
    }

    private static void save() {
        new Run("33 save").calls("save(0) = 0; save(1) = 0; save(2) = BAD; save(-1) = BAD; save(MIN) = BAD; save(MAX) = BAD;"
                + " sum(1); send(0); save(0) = 1; save(0) = 1; sum(2); send(0); save(1) = 2; restore(0) = 1; restore(1) = 2");
        new Run("33 save, in place of what was saved").calls("reset(1,2,3); save(0) = 0; reset(2,3,4); save(0) = 0;"
                + " reset(1,1,1); restore(0) = 0; count(0) = 2; count(1) = 3; count(2) = 4");
    }

    private static void restore() {
        new Run("34 restore").calls("restore(0) = STATE; restore(1) = STATE; restore(2) = BAD; restore(-1) = BAD;"
                + " restore(MIN) = BAD; save(1) = 0; restore(0) = STATE; sum(1); send(0); restore(1) = 0; count(4) = 0;"
                + " sum(2); send(0); sum(4); send(0); restore(1) = 0; restore(1) = 0; count(3) = 0");
        // What is restored, or saved, is a copy: later changes of one do not reach the other.
        new Run("34 restore, where it stays saved").calls("reset(1,2,3); store(0,1); sum(1); send(0); save(0) = 1; store(0,2);"
                + " setContent(0,0) = STATE; sum(2); send(0); leave(0); want(1,0); plan(0,0,0); restore(0) = 1; cached(0,2) = 0;"
                + " count(4) = 1; user(0,3) = 1; count(8) = 3; user(1,0) = NONE; count(5) = 0; store(0,3); drop(0,1); sum(8);"
                + " send(0); restore(0) = 1; cached(0,1) = 1; cached(0,3) = 0; user(1,3) = 1; sent(1) = 0");
        new Run("34 restore, two slots").calls("reset(1,2,3); save(0); reset(2,3,4); save(1); restore(0); count(1) = 2;"
                + " restore(1); count(1) = 3; restore(0); save(1); restore(1); count(1) = 2");
    }

    private static void everythingIsRestored() {
        Run run = new Run("34 restore, everything").calls(BUSY);
        long busy = run.object.digest();
        run.calls("save(1) = 2; reset(5,6,60); storeRandom(3); setContent(0,0)").times(30, "plan(5,5,9)");
        run.times(50, "sum(7)").times(50, "send(0)").calls("restore(1) = 2");
        run.due("digest()", run.object.digest(), busy);
        // The plans are not in the digest but by their number: they are carried out as they were made.
        run.calls("schedule(0); count(3) = 22").times(22, "send(0)").calls("idle(1) = 1; cached(1,2) = 1; cached(2,2) = 0;"
                + " idle(1) = 1; cached(2,2) = 1; count(6) = 1; decode(2,35) = 26; setContent(30,1) = STATE");
        new Run("34 restore, plans").calls("reset(1,2,3); plan(0,1,1); plan(1,2,5); save(0); reset(1,2,3); plan(0,3,9);"
                + " plan(0,4,0); restore(0); count(5) = 2; idle(1) = 1; cached(1,2) = 1; idle(1) = 1; cached(0,1) = 1");
        // The contents, and with them the bytes of the sums, come back.
        new Run("34 restore, contents").calls("setContent(3,99) = 122; save(0); setContent(3,5) = 99; restore(0);"
                + " setContent(3,99) = 99; sum(8); send(0); save(1); reset(1,1,0); sum(8); send(0); decode(0,3) = 122;"
                + " restore(1) = 1; decode(0,3) = 99");
        new Run("34 restore, not text and why").text("x").calls("save(0); clearText()").text("l0;l0;").calls("run() = 1;"
                + " restore(0) = 0; count(9) = 6; why() = STATE; count(8) = 1; run() = 1");
        slotsAreNotSaved();
    }

    private static void slotsAreNotSaved() {
        new Run("33 save, not the slots").calls("reset(1,2,0); save(0); reset(1,3,0); save(1); reset(1,4,0); save(0);"
                + " restore(1); count(1) = 3; restore(0); count(1) = 4");
    }

    private static void count() {
        Run run = new Run("35 count").calls(BUSY + "count(0) = 3; count(1) = 3; count(2) = 7; count(3) = 1; count(4) = 2;"
                + " count(5) = 2; count(6) = 1; count(7) = 22; count(8) = 5; count(9) = 0; count(10) = BAD; count(-1) = BAD;"
                + " count(MIN) = BAD; count(MAX) = BAD").text("abc").calls("count(9) = 3");
        run.calls("join(1); count(8) = 7; want(1,1); count(7) = 34; want(0,NONE); count(7) = 24; reset(5,6,60); count(8) = 63");
    }

    private static void digest() {
        long[] atFirst = {1, 1, 0, 0, 0, 0, 0, 0, 1, 0};
        long[] noUser = {-1, 1, 0, 0, 0, 0, 0, 0, 0, 0, 0};
        new Run("36 digest, new object").calls("digest() = " + digestOf(atFirst, noUser));
        long[] typed = {1, 1, 0, 0, 0, 0, 0, 0, 1, 2};
        new Run("36 digest, of a text").text("ab").calls("digest() = " + digestOf(typed, noUser));
        // User 0 has piece 4 in its cache and is absent; user 1 wants the file and received 3+4.
        long[] counts = {1, 2, 1, 1, 1, 1, 1, 12, 2, 1};
        long[] rest = {-1, 0, 1, 0, 1, 0, 1, 0, 16, 0, 1, 0, 1, 1, 0, 0, 12, 0, 24, 3, 24, 0, 11, 12};
        new Run("36 digest").calls("reset(1,2,1); store(0,4); plan(0,4,5); plan(1,1,1); idle(1) = 0; want(1,0); leave(0);"
                + " sum(24); sum(3); send(0) = 2").text("w").calls("digest() = " + digestOf(counts, rest)
                + "; digest() = " + digestOf(counts, rest));
        // The numbers are long; behind the pending sum come need and bound alone.
        Run high = new Run("36 digest, high pieces").calls("reset(5,1,0); sum(" + (1L << 59) + ")");
        Run higher = new Run("36 digest, higher pieces").calls("reset(5,1,0); sum(" + (1L << 58) + ")");
        high.due("difference of two digests", high.object.digest() - higher.object.digest(), 31L * 31 * (1L << 58));
    }

    /** For one file with its first contents: the counts, the contents, and all that comes behind them. */
    private static long digestOf(long[] counts, long[] rest) {
        long h = 19;
        for (long v : counts) {
            h = 31 * h + v;
        }
        for (int p = 0; p < 12; p++) {
            h = 31 * h + (37 * p + 11) % 256;
        }
        for (long v : rest) {
            h = 31 * h + v;
        }
        return h;
    }
}

import java.util.ArrayList;
import java.util.List;

/** Boundary cases of the promises 33 to 36: slots, counts, digest. */
final class SlotsBoundaries {
    /** Everything that can be full is: caches, lists, queue, history, plans. */
    private static final String BRIMFUL = "reset(5,6,60); setContent(59,0) = 146; storeSubsets(6) = 1; 100 * sum(5); 100 * send(0) = 63;"
            + " 99 * sum(6); sum(" + (1L << 59) + ") = 100; 30 * plan(5,59,9); want(0,0); want(5,4); leave(0) = 5;";

    private SlotsBoundaries() { }

    static void all() {
        save();
        restore();
        fullAndEmpty();
        count();
        eachCount();
        digest();
    }

    private static void save() {
        Run slot = Said.in(33, "`slot`: the slot, 0 or 1").calls("save(0) = 0; save(1) = 0");
        Boundary.edges(slot, "save(#)", 0, 1);
        Said.in(33, "in place of what was saved there").calls("save(0) = 0; sum(1); send(0); save(0) = 1; reset(5,6,60); save(1) = 0;"
                + " restore(0) = 1; count(0) = 1; save(1) = 1; restore(1) = 1; count(0) = 1; reset(2,2,2); save(0) = 0; restore(1) = 1;"
                + " restore(0) = 0; count(0) = 2");
        Said.in(33, "Saves everything but the text, the slots and why()").text("l0;l0;").calls("save(0) = 0; run() = 1; why() = STATE;"
                + " clearText() = 6").text("x").calls("save(1) = 0; restore(0) = 0; count(9) = 1; why() = STATE; count(8) = 1; restore(1) = 0;"
                + " count(8) = 0; count(9) = 1; why() = STATE");
        Said.in(33, "Returns the number of sums in the history").calls("save(0) = 0; 100 * sum(1); save(0) = 0; 99 * send(1);"
                + " save(0) = 99; send(0); save(1) = 100; restore(0) = 99; restore(1) = 100");
    }

    private static void restore() {
        Run slot = Said.in(34, "`slot`: the slot, 0 or 1").calls("save(0) = 0; save(1) = 0; restore(0) = 0; restore(1) = 0");
        Boundary.edges(slot, "restore(#)", 0, 1);
        Said.in(34, "STATE if nothing was saved there").calls("restore(0) = STATE; restore(1) = STATE; save(1) = 0; restore(0) = STATE;"
                + " restore(1) = 0; reset(1,1,0); restore(0) = STATE; restore(1) = 0; save(0) = 0; restore(0) = 0");
        Said.in(34, "STATE if nothing was saved").calls("save(0) = 0; restore(1) = STATE; restore(2) = BAD; restore(0) = 0");
        Said.in(34, "where it stays saved").calls("reset(1,2,1); store(0,0); sum(1); send(0); save(0) = 1; drop(0,0); sum(2); send(0);"
                + " plan(1,1,1); leave(1); restore(0) = 1; cached(0,0) = 1; drop(0,0) = 0; sum(4); send(0); restore(0) = 1; cached(0,0) = 1;"
                + " count(4) = 1; count(5) = 0; count(8) = 3; user(0,3) = 1; sent(1) = 0; restore(0) = 1; restore(0) = 1");
    }

    private static void fullAndEmpty() {
        Run run = Said.in(34, "Restores what was saved in a slot").calls("save(0) = 0");
        String empty = Shown.by(run.object);
        run.calls(BRIMFUL + "save(1) = 100");
        String full = Shown.by(run.object);
        for (int round = 0; round < 2; round++) {
            run.calls("restore(0) = 0");
            run.due("shows what was saved", Shown.by(run.object).equals(empty) ? 1 : 0, 1);
            run.calls("setContent(0,1) = 11; sum(1); send(0); want(0,0); leave(0); plan(0,0,0); restore(1) = 100");
            run.due("shows what was saved", Shown.by(run.object).equals(full) ? 1 : 0, 1);
            run.calls("sum(1) = FULL; plan(0,0,0) = FULL; send(0) = FULL; want(0,NONE) = 0; want(5,NONE) = 4; schedule(0) = 0;"
                    + " drop(5,59) = 59; idle(30) = 1; count(6) = 29");
        }
        // Plans, and the bytes of sums, come back as they were, though others stood in their places since.
        run.calls("reset(1,2,1); setContent(0,99); sum(1); send(0); plan(0,3,0); plan(1,4,9); save(0) = 1; reset(1,2,1); setContent(0,7);"
                + " sum(1); send(0); decode(0,0) = 7; plan(1,5,5); plan(0,6,5); restore(0) = 1; decode(0,0) = 99; idle(1) = 1;"
                + " cached(1,4) = 1; cached(0,3) = 0; idle(1) = 1; cached(0,3) = 1");
    }

    private static void count() {
        Run what = Said.in(35, "`what`: 0 for the number of files").calls("count(0) = 1; reset(5,1,0); count(0) = 5; reset(1,1,0);"
                + " count(0) = 1");
        Boundary.edges(what, "count(#)", 0, 9);
    }

    /** Each of the counts at its least and its greatest. */
    private static void eachCount() {
        Said.in(35, "1 for that of users").calls("count(1) = 1; reset(1,6,0); count(1) = 6; leave(5); count(1) = 6");
        Said.in(35, "2 for the capacity").calls("count(2) = 0; reset(1,1,60); count(2) = 60; store(0,0); count(2) = 60");
        Said.in(35, "3 for pending sums").calls("count(3) = 0; 99 * sum(1); count(3) = 99; sum(1); count(3) = 100; sum(1) = FULL;"
                + " count(3) = 100; send(0); count(3) = 99; schedule(0); count(3) = 0");
        Said.in(35, "4 for sums in the history").calls("count(4) = 0; 100 * sum(1); count(4) = 0; 99 * send(1); count(4) = 99; send(0);"
                + " count(4) = 100; sum(1); send(0) = FULL; count(4) = 100");
        Said.in(35, "5 for plans in the list").calls("count(5) = 0; 29 * plan(0,0,0); count(5) = 29; plan(0,0,0); count(5) = 30;"
                + " plan(0,0,0) = FULL; count(5) = 30; idle(1) = 0; count(5) = 29; idle(50) = 0; count(5) = 0");
        Run vain = Said.in(35, "6 for plans that were in vain").calls("count(6) = 0; plan(0,0,0); count(6) = 0; idle(1) = 0;"
                + " count(6) = 1; reset(1,1,0); count(6) = 0");
        for (int round = 1; round <= 15; round++) {
            vain.calls("30 * plan(0,0,0); idle(30) = 0; count(6) = " + 30 * round);
        }
        Said.in(35, "7 for the number of pieces that are missing for all users together").calls("count(7) = 0; reset(5,6,60);"
                + " count(7) = 0; want(0,0); count(7) = 12; want(1,0); count(7) = 24; want(2,2); want(3,3); want(4,4); want(5,4);"
                + " count(7) = 72; leave(5); count(7) = 72; sum(1); send(0); count(7) = 70; storeSubsets(6); count(7) = 0");
        Said.in(35, "8 for the set of users that are present").calls("count(8) = 1; leave(0); count(8) = 0; reset(1,6,0); count(8) = 63;"
                + " leave(5); count(8) = 31; leave(0); count(8) = 30; leave(1); leave(2); leave(3); leave(4); count(8) = 0; join(5);"
                + " count(8) = 32");
        Said.in(35, "9 for the length of the text").calls("count(9) = 0; 79 * type(0); count(9) = 79; type(127); count(9) = 80;"
                + " type(0) = FULL; count(9) = 80; clearText() = 80; count(9) = 0");
    }

    private static void digest() {
        // The least object: no sums, no pieces in caches, NONE wanted, which counts as -1.
        List<Long> least = numbers(1, 1, 0, 0, 0, 0, 0, 0, 1, 0);
        contents(least, 1);
        least.addAll(numbers(-1, 1, 0, 0, 0, 0, 0, 0, 0, 0, 0));
        Said.in(36, "It begins with h = 19").calls("digest() = " + digestOf(least) + "; digest() = " + digestOf(least));
        // The greatest one: the numbers flow over many times.
        List<Long> most = numbers(5, 6, 60, 100, 100, 30, 0, 0, 62, 80);
        contents(most, 5);
        most.set(most.size() - 1, 0L);
        for (int u = 0; u < 6; u++) {
            most.addAll(numbers(u == 0 ? 0 : u == 5 ? 4 : -1, u == 0 ? 0 : 1, 60, 40, 60, 40, 60, 0, (1L << 60) - 1));
            repeat(most, 40, 5);
        }
        repeat(most, 99, 6);
        most.add(1L << 59);
        repeat(most, 100, 5);
        repeat(most, 7, 0);
        Said.in(36, "in long arithmetic with overflow").calls(BRIMFUL + "80 * type(32); digest() = " + digestOf(most));
        // User 0 has piece 4 in its cache; user 1 wants the file and received 3+4; 0+1 is pending.
        List<Long> two = numbers(1, 2, 1, 1, 1, 0, 0, 12, 3, 0);
        contents(two, 1);
        two.addAll(numbers(-1, 1, 1, 0, 1, 0, 1, 0, 16, 0, 1, 0, 1, 1, 0, 0, 12, 0, 24, 3, 24, 0, 11, 12));
        Said.in(36, "its cache as a set of pieces, and the sums of its list as sets of pieces").calls("reset(1,2,1); store(0,4);"
                + " want(1,0); sum(24); sum(3); send(1) = 2; digest() = " + digestOf(two));
        List<Long> served = numbers(1, 1, 0, 0, 0, 0, 0, 12, 1, 0);
        contents(served, 1);
        served.addAll(numbers(0, 1, 0, 0, 0, 0, 0, 12, 0, 12, 12));
        Said.in(36, "for each user, need(u); bound()").calls("want(0,0); digest() = " + digestOf(served));
    }

    static List<Long> numbers(long... all) {
        List<Long> list = new ArrayList<>();
        for (long each : all) {
            list.add(each);
        }
        return list;
    }

    static void contents(List<Long> list, int files) {
        for (long p = 0; p < 12 * files; p++) {
            list.add((37 * p + 11) % 256);
        }
    }

    private static void repeat(List<Long> list, int times, long number) {
        for (int i = 0; i < times; i++) {
            list.add(number);
        }
    }

    static long digestOf(List<Long> numbers) {
        long h = 19;
        for (long v : numbers) {
            h = 31 * h + v;
        }
        return h;
    }
}

/** Promises 14 to 19: sums. */
public final class SumsTest {
    private static final long HIGHEST = 1L << 59;

    public static void main(String[] args) {
        sum();
        plain();
        subsets();
        leaders();
        greedy();
        scheduleInAll();
        send();
        longLists();
        resend();
        pendingAndSent();
        Run.end();
    }

    private static void sum() {
        new Run("14 sum").calls("reset(5,1,0); sum(" + HIGHEST + ") = 1; sum(" + (2 * HIGHEST - 1) + ") = 2; sum(1) = 3;"
                + " sum(0) = BAD; sum(" + 2 * HIGHEST + ") = BAD; sum(-1) = BAD; sum(" + Long.MIN_VALUE + ") = BAD;"
                + " sum(" + Long.MAX_VALUE + ") = BAD; count(3) = 3; pending(0) = " + HIGHEST + "; pending(2) = 1");
        new Run("14 sum, pieces that exist").calls("reset(2,1,0); sum(" + (1L << 24) + ") = BAD; sum("
                + ((1L << 24) - 1) + ") = 1; sum(" + ((1L << 24) + 1) + ") = BAD; sum(" + (1L << 23) + ") = 2");
        new Run("14 sum, 100 pending").times(99, "sum(5)").calls("sum(6) = 100; sum(7) = FULL; sum(0) = BAD;"
                + " sum(4096) = BAD; count(3) = 100; pending(99) = 6; send(0) = 1; sum(7) = 100; pending(99) = 7;"
                + " pending(98) = 6");
    }

    private static void plain() {
        new Run("15 plain").calls("reset(2,3,12); schedule(0) = 0; want(2,0); store(2,1); store(2,3); schedule(0) = 10;"
                + " pending(0) = 1; pending(1) = 4; pending(2) = 16; pending(9) = 2048; pending(10) = 0;"
                + " want(0,0); schedule(0) = 12; pending(1) = 2; want(0,1); schedule(0) = 22;"
                + " pending(21) = " + (1L << 23) + "; want(2,NONE); schedule(0) = 12; pending(0) = 4096");
        new Run("15 plain, without what a user knows from sums").calls("reset(1,1,1); want(0,0); store(0,0); sum(3);"
                + " sum(12); send(0); send(0); schedule(0) = 10; pending(0) = 4; pending(1) = 8");
        new Run("15 plain, for absent users too").calls("reset(1,2,0); want(1,0); leave(1); schedule(0) = 12");
    }

    private static void subsets() {
        // User 0 lacks 0, 1 and 2 of file 0, user 1 lacks 12 of file 1; 2 is in no cache, the rest in all.
        Run run = new Run("15 subsets").calls("reset(2,2,24)");
        cacheAllBut(run, 0, 0, 1, 2);
        cacheAllBut(run, 1, 2, 12);
        run.calls("want(0,0); want(1,1); schedule(1) = 3; pending(0) = 4097; pending(1) = 2; pending(2) = 4");
        run.calls("want(1,NONE); schedule(1) = 3; pending(0) = 1; pending(1) = 2; pending(2) = 4");
        run.calls("want(1,1); leave(1); schedule(1) = 3; pending(0) = 4097; leave(0); schedule(1) = 3");
        // What a user knows from a sum is not missing for it, but is not in its cache either.
        run.calls("join(0); join(1); want(0,NONE); want(1,NONE); schedule(1) = 0; sum(1); send(0) = 3; want(0,0);"
                + " want(1,1); schedule(1) = 2; pending(0) = 4098; pending(1) = 4; drop(1,1) = 21; schedule(1) = 3; pending(0) = 4096; pending(1) = 2; pending(2) = 4");
        // User 0 wants nothing: that it has piece 0 does not matter.
        new Run("15 subsets, of demanding users").calls("reset(2,3,1); store(0,0); store(2,1); want(1,0); want(2,1);"
                + " schedule(1) = 24; pending(0) = 2; pending(1) = 1; pending(2) = 4; pending(12) = 4096");
        subsetsByDescendingSize();
        mostSums();
    }

    private static void subsetsByDescendingSize() {
        // Piece 0 is in the caches of 1 and 2, 1 in that of 2, 2 in that of 1, 3 in none.
        new Run("15 subsets, order of the sets").calls("reset(2,3,24); store(1,0); store(2,0); store(2,1); store(1,2);"
                + " want(0,0); want(1,1); want(2,1); schedule(1) = 36; pending(0) = 1; pending(1) = 4; pending(2) = 2;"
                + " pending(3) = 8; pending(11) = 2048; pending(12) = 4096; pending(23) = 8388608;"
                + " pending(24) = 4096; pending(35) = 8388608; pending(36) = 0");
    }

    private static void mostSums() {
        Run run = new Run("15 subsets, the most sums there can be").calls("reset(5,6,0)");
        for (int u = 0; u < 6; u++) {
            run.calls("want(" + u + "," + u % 5 + ")");
        }
        run.calls("schedule(1) = 72; schedule(2) = 60; schedule(3) = 60; schedule(0) = 60").times(40, "sum(3)");
        run.calls("count(3) = 100; schedule(1) = 72; pending(71) = 2048; pending(72) = 0");
    }

    private static void leaders() {
        // User 0 leads file 0, user 2 leads file 1; the set {1,3} is the only one without a leader.
        Run run = new Run("15 leaders").calls("reset(2,4,12); storeSubsets(1) = 4; want(0,0); want(1,0); want(2,1);"
                + " want(3,1); schedule(1) = 18; schedule(2) = 15");
        // Then 1 and 2 lead, and the pieces that only user 0 has are sent for one user each.
        run.calls("want(0,NONE); schedule(1) = 18; schedule(2) = 15; want(1,1); schedule(1) = 18; schedule(2) = 9;"
                + " want(1,NONE); want(2,NONE); schedule(2) = 9; leave(3); schedule(2) = 9");
        new Run("15 leaders, of the sets of one user").calls("reset(1,3,0); want(2,0); want(1,0); schedule(1) = 24;"
                + " schedule(2) = 12; want(1,NONE); schedule(2) = 12; pending(0) = 1");
    }

    private static void greedy() {
        // User 0 lacks 0 and 1, user 1 lacks 1 and 2, both of file 0: 1 serves both.
        Run run = new Run("15 greedy").calls("reset(1,2,12)");
        cacheAllBut(run, 0, 0, 1);
        cacheAllBut(run, 1, 1, 2);
        run.calls("want(0,0); want(1,0); schedule(3) = 2; pending(0) = 5; pending(1) = 2");
        // Here 0 and 1 cannot be one sum for user 1, which has neither.
        Run other = new Run("15 greedy, the user must have all other pieces").calls("reset(2,3,24)");
        cacheAllBut(other, 0, 0);
        cacheAllBut(other, 1, 0, 12);
        cacheAllBut(other, 2, 13);
        other.calls("want(0,0); want(1,1); want(2,1); schedule(3) = 2; pending(0) = 8193; pending(1) = 4096");
        Run third = new Run("15 greedy, each user of the group must bear the piece").calls("reset(2,2,24)");
        cacheAllBut(third, 0, 0, 12);
        cacheAllBut(third, 1, 12);
        third.calls("want(0,0); want(1,1); schedule(3) = 2; pending(0) = 1; pending(1) = 4096");
        Run fourth = new Run("15 greedy, who joined must bear it too").calls("reset(3,3,36)");
        cacheAllBut(fourth, 0, 0);
        cacheAllBut(fourth, 1, 12, 24);
        cacheAllBut(fourth, 2, 24);
        fourth.calls("want(0,0); want(1,1); want(2,2); schedule(3) = 2; pending(0) = 4097; pending(1) = 16777216");
        new Run("15 greedy, the same piece for all").calls("reset(1,3,0); want(0,0); want(1,0); want(2,0); leave(1);"
                + " schedule(3) = 12; pending(0) = 1; pending(11) = 2048");
    }

    private static void cacheAllBut(Run run, int user, int... lacking) {
        for (int piece = 0; piece < 12 * run.object.count(0); piece++) {
            run.object.store(user, piece);
        }
        for (int piece : lacking) {
            run.object.drop(user, piece);
        }
    }

    private static void scheduleInAll() {
        new Run("15 schedule").calls("sum(3) = 1; schedule(4) = BAD; schedule(-1) = BAD; schedule(MAX) = BAD;"
                + " schedule(MIN) = BAD; count(3) = 1; schedule(0) = 0; count(3) = 0; want(0,0); schedule(3) = 12;"
                + " schedule(2) = 12; schedule(1) = 12; schedule(0) = 12; count(4) = 0");
    }

    private static void send() {
        new Run("16 send").calls("reset(1,3,0); send(0) = STATE; send(64) = BAD; send(-1) = BAD; send(MIN) = BAD;"
                + " send(63) = STATE; sum(1); sum(2); sum(4); sum(8); send(64) = BAD; send(-1) = BAD; send(0) = 7;"
                + " count(3) = 3; count(4) = 1; pending(0) = 2; sent(0) = 1; send(2) = 5; send(56) = 7; send(63) = 0;"
                + " send(0) = STATE; user(0,3) = 3; user(1,3) = 2; user(2,3) = 3; count(4) = 4");
        new Run("16 send, present users").calls("reset(1,3,0); leave(0); sum(1); sum(1); send(0) = 6; send(4) = 2");
        Run full = new Run("16 send, 100 sent").calls("reset(1,6,0)").times(100, "sum(3)").times(100, "send(0)");
        full.calls("count(4) = 100; send(0) = STATE; sum(1) = 1; send(0) = FULL; send(64) = BAD; count(3) = 1;"
                + " count(4) = 100; user(5,3) = 40; sent(99) = 3");
    }

    private static void longLists() {
        // 40 sums: 0 alone, then 39 times 0 and 1; the 41st pushes out the first one.
        Run run = new Run("16 send, 40 received").calls("reset(1,2,0); sum(1)").times(39, "sum(3)");
        run.times(40, "send(2)").calls("user(0,3) = 40; user(0,4) = 2; user(0,5) = 38; proof(0,0) = 1; proof(0,1) = 3;"
                + " sum(4); send(2) = 1; user(0,3) = 40; decode(0,0) = NONE; user(0,4) = 2; user(0,5) = 38;"
                + " proof(0,2) = " + (1L << 39) + "; decode(0,2) = 85; user(1,3) = 0; count(4) = 41;"
                + " sum(2); send(2); proof(0,0) = " + (1L + (1L << 39)) + "; decode(0,0) = 11; decode(0,1) = 48;"
                + " decode(0,2) = 85");
    }

    private static void resend() {
        new Run("17 resend").calls("reset(1,2,0); resend(0) = BAD; sum(5); resend(0) = BAD; send(0); sum(6); send(0);"
                + " resend(1) = 1; resend(0) = 2; resend(2) = BAD; resend(-1) = BAD; resend(MAX) = BAD; resend(MIN) = BAD;"
                + " pending(0) = 6; pending(1) = 5; count(4) = 2; sent(0) = 5; send(1) = 2; sent(2) = 6; resend(2) = 2");
        new Run("17 resend, 100 pending").calls("sum(1); send(0)").times(99, "sum(2)").calls("resend(0) = 100;"
                + " resend(0) = FULL; resend(1) = BAD; count(3) = 100; pending(99) = 1");
        Run all = new Run("17 resend, the last one of 100").times(99, "sum(1)").calls("sum(2)").times(100, "send(0)");
        all.calls("resend(99) = 1; resend(100) = BAD; pending(0) = 2");
    }

    private static void pendingAndSent() {
        Run run = new Run("18 pending, 19 sent").calls("reset(5,1,0); pending(0) = 0; sent(0) = 0;"
                + " sum(" + HIGHEST + "); sum(2); sum(4); pending(0) = " + HIGHEST + "; pending(1) = 2; pending(2) = 4;"
                + " pending(3) = 0; pending(-1) = 0; pending(100) = 0; pending(MIN) = 0; pending(MAX) = 0; sent(0) = 0;"
                + " send(0); pending(0) = 2; pending(2) = 0; sent(0) = " + HIGHEST + "; sent(1) = 0; sent(-1) = 0;"
                + " sent(100) = 0; sent(MIN) = 0; sent(MAX) = 0; send(1) = 0; sent(1) = 2; sent(0) = " + HIGHEST);
        run.calls("reset(5,1,0); pending(0) = 0; sent(0) = 0");
    }
}

/** Boundary cases of the promises 14 to 19: sums. */
final class SumsBoundaries {
    private SumsBoundaries() { }

    static void all() {
        sum();
        schedule();
        send();
        longLists();
        resend();
        pending();
        sent();
    }

    private static void sum() {
        Run bad = Said.in(14, "BAD if the set is empty or contains a piece that does not exist");
        for (int n = 1; n <= 5; n++) {
            long beyond = 1L << (12 * n);
            bad.calls("reset(" + n + ",1,0); sum(1) = 1; sum(" + (beyond >> 1) + ") = 2; sum(" + (beyond - 1) + ") = 3;"
                    + " sum(0) = BAD; sum(" + beyond + ") = BAD; sum(" + (beyond + 1) + ") = BAD; sum(" + (2 * beyond - 1) + ") = BAD");
            bad.calls("sum(" + (1L << 60) + ") = BAD; sum(" + (1L << 62) + ") = BAD; sum(-1) = BAD; sum(-2) = BAD; sum(LONGMIN) = BAD;"
                    + " sum(" + (Long.MIN_VALUE + 1) + ") = BAD; sum(LONGMAX) = BAD; sum(MIN) = BAD; count(3) = 3; pending(3) = 0");
        }
        Said.in(14, "`pieces`: the set of its pieces").calls("reset(5,1,0); sum(1) = 1; sum(" + (1L << 59) + ") = 2; sum("
                + ((1L << 60) - 1) + ") = 3; sum(" + (1L << 31) + ") = 4; sum(" + (1L << 32) + ") = 5; sum(MAX) = 6; pending(0) = 1;"
                + " pending(1) = " + (1L << 59) + "; pending(2) = " + ((1L << 60) - 1) + "; pending(3) = " + (1L << 31)
                + "; pending(4) = " + (1L << 32) + "; pending(5) = MAX");
        Said.in(14, "FULL if there are 100").calls("98 * sum(1); sum(2) = 99; sum(4) = 100; sum(8) = FULL; sum(1) = FULL;"
                + " count(3) = 100; pending(99) = 4; pending(100) = 0; send(0) = 1; sum(8) = 100; sum(8) = FULL; pending(98) = 4;"
                + " pending(99) = 8; schedule(0) = 0; sum(8) = 1");
        Said.in(14, "Puts a sum at the end of the queue").calls("sum(1) = 1; sum(1) = 2; sum(2) = 3; send(0); sum(1) = 3;"
                + " pending(0) = 1; pending(1) = 2; pending(2) = 1; pending(3) = 0");
    }

    private static void schedule() {
        Run method = Said.in(15, "`method`: the method, 0 to 3").calls("want(0,0); schedule(0) = 12; schedule(1) = 12;"
                + " schedule(2) = 12; schedule(3) = 12");
        Boundary.edges(method, "schedule(#)", 0, 3);
        method.calls("count(3) = 12");
        Run none = Said.in(15, "Returns the number of pending sums");
        Run most = Said.in(15, "Makes a schedule").calls("reset(5,6,60); want(0,0); want(1,1); want(2,2); want(3,3); want(4,4);"
                + " want(5,0)");
        int[] sums = {60, 72, 60, 60};
        for (int m = 0; m <= 3; m++) {
            String call = "schedule(" + m + ") = ";
            none.calls("reset(5,6,0); 100 * sum(1); " + call + "0; count(3) = 0; pending(0) = 0; reset(1,1,12); storeSubsets(1);"
                    + " want(0,0); sum(1); " + call + "0; drop(0,11); " + call + "1; pending(0) = 2048; pending(1) = 0");
            most.calls("storeSubsets(0); " + call + sums[m] + "; storeSubsets(6); " + call + "0; storeSubsets(0)");
        }
    }

    private static void send() {
        Run lost = Said.in(16, "`lost`: the set of the users that miss it, 0 to 63").calls("reset(1,6,0); 100 * sum(1);"
                + " send(0) = 63; send(63) = 0; send(1) = 62; send(32) = 31; send(62) = 1; send(31) = 32; user(0,3) = 3; user(5,3) = 3");
        Boundary.edges(lost, "send(#)", 0, 63);
        lost.calls("count(4) = 8");
        Run others = Said.in(16, "(users that do not exist do not matter)");
        for (int k = 1; k <= 6; k++) {
            int all = (1 << k) - 1;
            others.calls("reset(1," + k + ",0); 4 * sum(1); send(" + (63 - all) + ") = " + all + "; send(63) = 0; send(0) = " + all
                    + "; send(" + (63 - all + 1) + ") = " + (all - 1));
        }
        Said.in(16, "each user that is present and not in a set of users receives it").calls("reset(1,6,0); leave(0); leave(5);"
                + " 4 * sum(1); send(0) = 30; send(2) = 28; send(33) = 30; send(30) = 0; user(0,3) = 0; user(1,3) = 2; user(4,3) = 3");
        Said.in(16, "it leaves the queue and comes to the history").calls("sum(1); sum(2); send(1) = 0; count(3) = 1; count(4) = 1;"
                + " pending(0) = 2; sent(0) = 1; leave(0); send(0) = 0; count(3) = 0; count(4) = 2; pending(0) = 0; sent(1) = 2");
        Said.in(16, "STATE if no sum is pending").calls("send(0) = STATE; send(63) = STATE; sum(1); send(0) = 1; send(0) = STATE;"
                + " want(0,0); storeSubsets(0); schedule(0) = 11; 11 * send(0); send(0) = STATE; schedule(0) = 0; send(0) = STATE");
        Said.in(16, "FULL if 100 sums were sent").calls("reset(1,6,0); 100 * sum(1); 98 * send(0); send(0) = 63; count(4) = 99;"
                + " send(0) = 63; count(4) = 100; sum(2) = 1; send(0) = FULL; send(63) = FULL; count(3) = 1; count(4) = 100;"
                + " sent(99) = 1; sent(100) = 0; user(0,3) = 40; decode(0,1) = NONE; reset(1,6,0); sum(2); send(0) = 63");
    }

    private static void longLists() {
        Run run = Said.in(16, "A user whose list has 40 sums already loses the first one of its list").calls("reset(5,3,0)");
        for (int piece = 0; piece < 39; piece++) {
            run.calls("sum(" + (1L << piece) + "); send(2) = 5");
        }
        run.calls("user(0,3) = 39; user(0,4) = 39; decode(0,0) = 11; sum(" + (1L << 39) + "); send(4) = 3; user(0,3) = 40;"
                + " user(2,3) = 39; user(1,3) = 1; decode(0,0) = 11; proof(0,0) = 1; proof(0,39) = " + (1L << 39));
        // The 41st for user 0, the 40th for user 2, the second one for user 1.
        run.calls("sum(" + (1L << 40) + "); send(0) = 7; user(0,3) = 40; user(0,4) = 40; decode(0,0) = NONE; decode(0,1) = 48;"
                + " proof(0,1) = 1; proof(0,40) = " + (1L << 39) + "; user(2,3) = 40; decode(2,0) = 11; decode(2,39) = NONE;"
                + " proof(2,40) = " + (1L << 39) + "; user(1,3) = 2; proof(1,40) = 2");
        // Who misses a sum, or is absent, loses none.
        run.calls("leave(2); sum(" + (1L << 41) + "); send(1) = 2; user(0,3) = 40; decode(0,1) = 48; user(2,3) = 40; decode(2,0) = 11;"
                + " join(2); sum(1); send(0) = 7; decode(0,1) = NONE; proof(0,0) = " + (1L << 39) + "; proof(2,0) = " + (1L << 39)
                + "; decode(2,1) = 48; proof(2,1) = 1; user(1,3) = 4");
    }

    private static void resend() {
        Said.in(17, "BAD if there is no such sum").calls("resend(0) = BAD; resend(-1) = BAD; resend(MIN) = BAD; resend(MAX) = BAD;"
                + " sum(1); resend(0) = BAD; send(0); resend(0) = 1; resend(1) = BAD; resend(-1) = BAD; send(0); resend(1) = 1;"
                + " resend(2) = BAD; reset(1,1,0); resend(0) = BAD");
        Run index = Said.in(17, "`i`: its index in the history, from 0").calls("sum(3); 98 * sum(1); sum(2); 99 * send(0);"
                + " resend(98) = 2; resend(99) = BAD; send(0); pending(0) = 1; resend(99) = 2; pending(1) = 2; resend(0) = 3;"
                + " pending(2) = 3; count(4) = 100");
        Boundary.edges(index, "resend(#)", 0, 99);
        index.calls("resend(100) = BAD; count(3) = 5");
        Said.in(17, "FULL if there are 100").calls("sum(4); send(0); 98 * sum(1); resend(0) = 99; resend(0) = 100; resend(0) = FULL;"
                + " count(3) = 100; pending(98) = 4; pending(99) = 4; send(0); resend(0) = 100; resend(1) = FULL; resend(2) = BAD");
    }

    private static void pending() {
        Run none = Said.in(18, "0 if there is no such sum").calls("pending(0) = 0; pending(-1) = 0; pending(MIN) = 0; pending(MAX) = 0;"
                + " sum(5); sum(6); pending(1) = 6; pending(2) = 0; send(0); pending(0) = 6; pending(1) = 0; send(0); pending(0) = 0;"
                + " sum(7); reset(1,1,0); pending(0) = 0");
        none.calls("want(0,0); schedule(0) = 12; pending(11) = 2048; pending(12) = 0; want(0,NONE); schedule(0) = 0; pending(0) = 0");
        Run index = Said.in(18, "`i`: its index in the queue, from 0").calls("reset(5,1,0); sum(" + (1L << 59) + "); 98 * sum(1);"
                + " pending(98) = 1; pending(99) = 0; sum(2); pending(0) = " + (1L << 59) + "; pending(99) = 2");
        Boundary.refused(index, "pending(#)", 0, 99, "0");
    }

    private static void sent() {
        Said.in(19, "0 if there is no such sum").calls("sent(0) = 0; sent(-1) = 0; sent(MIN) = 0; sent(MAX) = 0; sum(5); sum(6);"
                + " sent(0) = 0; send(0); sent(0) = 5; sent(1) = 0; send(1) = 0; sent(1) = 6; sent(2) = 0; reset(1,1,0); sent(0) = 0");
        Run index = Said.in(19, "`i`: its index, from 0").calls("reset(5,1,0); sum(" + (1L << 59) + "); 98 * sum(1); sum(2);"
                + " 99 * send(0); sent(98) = 1; sent(99) = 0; send(0); sent(0) = " + (1L << 59) + "; sent(99) = 2");
        Boundary.refused(index, "sent(#)", 0, 99, "0");
    }
}

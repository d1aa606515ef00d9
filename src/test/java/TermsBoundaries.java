/** Boundary cases of the section 'Terms': ranges, limits, rows, schedules and plans. */
final class TermsBoundaries {
    private TermsBoundaries() { }

    static void all() {
        filesAndUsers();
        parts();
        contents();
        caches();
        limits();
        rows();
        missing();
        plain();
        subsets();
        leaders();
        greedy();
        plans();
    }

    private static void filesAndUsers() {
        Run run = Said.in(0, "There are n files, 1 to 5, and k users, 1 to 6, both numbered from 0");
        Run first = Said.in(0, "At first caches and lists are empty, no user wants anything, and all are present");
        for (int n = 1; n <= 5; n++) {
            for (int k = 1; k <= 6; k++) {
                run.calls("reset(" + n + "," + k + ",0) = " + 12 * n + "; want(" + (k - 1) + "," + (n - 1) + ") = NONE; want(" + (k - 1)
                        + "," + n + ") = BAD; want(" + k + "," + (n - 1) + ") = BAD; want(-1,0) = BAD; want(0,0); user(" + k + ",0) = BAD");
                first.calls("reset(" + n + "," + k + ",60); count(8) = " + ((1 << k) - 1));
                for (int u = 0; u < k; u++) {
                    first.calls("user(" + u + ",0) = NONE; user(" + u + ",1) = 1; user(" + u + ",2) = 0; user(" + u + ",3) = 0");
                }
            }
        }
        run.calls("reset(6,6,0) = BAD; reset(5,7,0) = BAD; reset(0,6,0) = BAD; reset(5,0,0) = BAD; count(0) = 5; count(1) = 6");
    }

    private static void parts() {
        Run run = Said.in(0, "Each file has 12 parts, numbered from 0; piece p = 12 * f + j is part j of file f").calls("reset(5,1,60)");
        for (int f = 0; f < 5; f++) {
            run.calls("want(0," + f + "); user(0,7) = 12; schedule(0) = 12; pending(0) = " + (1L << (12 * f)) + "; pending(11) = "
                    + (1L << (12 * f + 11)) + "; pending(12) = 0");
        }
    }

    private static void contents() {
        Run run = Said.in(0, "which is at first (37 * p + 11) modulo 256").calls("reset(5,1,0)");
        // 233 is the last one before it wraps around for the first time.
        run.calls("setContent(6,233) = 233; setContent(7,14) = 14; setContent(13,236) = 236; setContent(14,17) = 17");
        for (int p = 0; p < 60; p++) {
            int due = (37 * p + 11) % 256;
            run.calls("setContent(" + p + "," + due + ") = " + due);
        }
        Said.in(0, "Each piece has a content, a byte from 0 to 255").calls("setContent(0,0) = 11; setContent(0,255) = 0;"
                + " setContent(0,256) = BAD; setContent(0,-1) = BAD; setContent(0,MIN) = BAD; setContent(0,MAX) = BAD; sum(1); send(0);"
                + " decode(0,0) = 255");
        Said.in(0, "the exclusive or of their contents, as they are when it is sent").calls("sum(1); sum(2); setContent(0,0) = 11;"
                + " setContent(1,255) = 48; send(0); decode(0,0) = 0; send(0); decode(0,1) = 255; setContent(0,1) = STATE; reset(1,1,1); sum(7);"
                + " setContent(0,200); setContent(1,100); setContent(2,50); send(0); sum(2); sum(4); 2 * send(0); decode(0,0) = 200");
    }

    /** With each capacity: one short of full, full, and what does not fit any more. */
    private static void caches() {
        Run run = Said.in(0, "a set of pieces, at most c of them, c being the capacity, 0 to 60");
        for (int c = 0; c <= 60; c++) {
            run.calls("reset(5,2," + c + ")");
            for (int piece = 0; piece < c - 1; piece++) {
                run.object.store(1, piece);
            }
            if (c > 0) {
                run.calls("user(1,2) = " + (c - 1) + "; store(1," + (c - 1) + ") = " + c);
            }
            if (c < 60) {
                run.calls("store(1," + c + ") = FULL; plan(1," + c + ",0); idle(1) = 0; count(6) = 1; store(1,59) = FULL");
            }
            run.calls("user(1,2) = " + c + "; user(0,2) = 0");
        }
    }

    private static void limits() {
        Said.in(0, "it has a list of at most 40 sums that it received").calls("100 * sum(3); 39 * send(0); user(0,3) = 39; send(0);"
                + " user(0,3) = 40; send(0); user(0,3) = 40; 59 * send(0); user(0,3) = 40");
        Said.in(0, "A sum is a non-empty set of pieces").calls("sum(0) = BAD; sum(1) = 1; sum(4095) = 2; sum(4096) = BAD");
        Said.in(0, "The server has a queue of at most 100 sums that are pending, and a history of at most 100 sums that were sent")
                .calls("99 * sum(1); sum(2) = 100; sum(4) = FULL; 99 * send(0); count(3) = 1; count(4) = 99; 99 * sum(8); count(3) = 100;"
                + " sum(4) = FULL; send(0) = 1; count(4) = 100; sent(99) = 2; send(0) = FULL; sum(4) = 100; sum(4) = FULL; count(3) = 100;"
                + " pending(0) = 8; pending(99) = 4; resend(0) = FULL");
        Said.in(0, "the greatest priority").calls("reset(1,1,1); plan(0,0,0) = 1; plan(0,1,9) = 2; plan(0,2,10) = BAD; plan(0,2,-1) = BAD;"
                + " idle(1) = 1; cached(0,1) = 1");
    }

    private static void rows() {
        Said.in(0, "A row is dependent if it, as a number, is the exclusive or of some of the rows before it").calls("reset(1,1,3);"
                + " user(0,4) = 0; user(0,5) = 0; sum(3); send(0); user(0,4) = 1; user(0,5) = 0; sum(3); send(0); user(0,5) = 1; sum(6);"
                + " send(0); user(0,4) = 2; user(0,5) = 1; sum(5); send(0); user(0,4) = 2; user(0,5) = 2; sum(7); send(0); user(0,4) = 3;"
                + " user(0,5) = 2; sum(1); send(0); user(0,4) = 3; user(0,5) = 3; user(0,6) = 3");
        // A piece that comes into the cache later is a row before all sums.
        Said.in(0, "its cached pieces, each of them alone, in ascending order, and then the sums of its list").calls("reset(1,1,3);"
                + " sum(1); sum(3); 2 * send(0); proof(0,0) = 1; proof(0,1) = 3; user(0,5) = 0; store(0,0); user(0,4) = 2; user(0,5) = 1;"
                + " proof(0,0) = 0; proof(0,1) = 2; store(0,1); user(0,4) = 2; user(0,5) = 2; proof(0,1) = 0; drop(0,0); user(0,4) = 2;"
                + " user(0,5) = 1; proof(0,0) = 1; drop(0,1); proof(0,1) = 3");
        // 0+1, 0+1 again, 0: the second sum is in no proof, though it would do as well as the first.
        Said.in(0, "these can be chosen from the independent rows in just one way, which is the proof of the piece").calls("2 * sum(3);"
                + " 2 * sum(1); 4 * send(0); proof(0,0) = 4; proof(0,1) = 5; decode(0,1) = 48");
        // A sum that was used twice on the way is not in the proof.
        Said.in(0, "which is the proof of the piece").calls("sum(3); sum(6); sum(11); 3 * send(0); proof(0,3) = 5; reset(1,1,0);"
                + " sum(7); sum(10); sum(6); 3 * send(0); proof(0,0) = 5; proof(0,1) = -1; sum(8); send(0); proof(0,1) = 10; proof(0,2) = 14");
        Said.in(0, "The rank of the user is the number of its independent rows").calls("reset(5,1,60); user(0,4) = 0; storeSubsets(1);"
                + " 40 * sum(" + ((1L << 60) - 1) + "); 40 * send(0); user(0,4) = 60; user(0,5) = 40; drop(0,59); user(0,4) = 60;"
                + " user(0,5) = 39; drop(0,58); user(0,4) = 59; user(0,6) = 58; storeSubsets(0); user(0,4) = 1; user(0,6) = 0");
    }

    private static void missing() {
        Said.in(0, "A piece is missing for a user if it is a piece of the file that the user wants, and the user does not know it")
                .calls("reset(2,1,24); user(0,7) = 0; want(0,1); user(0,7) = 12; store(0,11); user(0,7) = 12; store(0,12); user(0,7) = 11;"
                + " sum(8192); send(0); user(0,7) = 10; storeSubsets(1); user(0,7) = 0; storeSubsets(0); user(0,7) = 11; want(0,0);"
                + " user(0,7) = 12; want(0,NONE); user(0,7) = 0");
        Said.in(0, "The demanding users are those that want a file, present or not").calls("want(0,0); leave(0); schedule(0) = 12;"
                + " schedule(1) = 12; schedule(2) = 12; schedule(3) = 12; bound() = 12; want(0,NONE); schedule(0) = 0; schedule(1) = 0;"
                + " schedule(2) = 0; schedule(3) = 0; bound() = 0");
        Said.in(0, "A schedule replaces all pending sums by sums for the present demands").calls("100 * sum(3); schedule(0) = 0;"
                + " pending(0) = 0; want(0,0); 100 * sum(3); schedule(0) = 12; pending(0) = 1; pending(11) = 2048; pending(12) = 0; sum(7) = 13;"
                + " schedule(3) = 12; pending(12) = 0; count(4) = 0");
    }

    private static void plain() {
        Said.in(0, "for each piece that is missing for some user, in ascending order, the sum of this piece alone").calls("reset(5,6,60);"
                + " schedule(0) = 0; want(5,0); want(4,4); schedule(0) = 24; pending(0) = 1; pending(11) = 2048; pending(12) = " + (1L << 48)
                + "; pending(23) = " + (1L << 59) + "; storeSubsets(6); schedule(0) = 0; drop(5,59); schedule(0) = 0; drop(4,59);"
                + " schedule(0) = 1; pending(0) = " + (1L << 59) + "; want(5,4); schedule(0) = 1");
    }

    private static void subsets() {
        // User 0 lacks 0, 1 and 2, which user 1 has; user 1 lacks 12, which user 0 has; 3 and 13 nobody has.
        Said.in(0, "sum i (from 0) consists of the pieces with the index i of all lists that have it").calls("reset(2,2,24);"
                + " storeSubsets(2); drop(0,0); drop(0,1); drop(0,2); drop(1,12); want(0,0); want(1,1); schedule(1) = 3; pending(0) = 4097;"
                + " pending(1) = 2; pending(2) = 4; drop(0,3); drop(1,3); schedule(1) = 4; pending(2) = 4; pending(3) = 8; drop(0,13);"
                + " drop(1,13); schedule(1) = 5; pending(3) = 8; pending(4) = 8192; store(0,0); store(0,1); store(0,2); schedule(1) = 3;"
                + " pending(0) = 4096");
        Said.in(0, "If the longest one of these lists has m pieces, m sums follow").calls("reset(1,2,12); storeSubsets(2); want(0,0);"
                + " want(1,0); schedule(1) = 0; drop(0,0); schedule(1) = 1; drop(1,1); schedule(1) = 1; pending(0) = 3; storeSubsets(0);"
                + " schedule(1) = 24; pending(0) = 1; pending(11) = 2048; pending(12) = 1; pending(23) = 2048");
        Run order = Said.in(0, "are gone through by descending size, those of the same size in ascending order as numbers");
        order.calls("reset(5,6,60); storeSubsets(0); want(0,0); want(5,4); want(2,2); store(5,0); store(2,1); store(5,2); store(2,2);"
                + " store(0,59); schedule(1) = 35; pending(0) = 4; pending(1) = 2; pending(2) = " + (1L + (1L << 59)) + "; pending(3) = 8;"
                + " pending(12) = " + (1L << 24) + "; pending(24) = " + (1L << 48) + "; pending(34) = " + (1L << 58)
                + "; pending(35) = 0");
        // User 2 wants nothing any more: it does not matter what it has.
        order.calls("want(2,NONE); schedule(1) = 23; pending(0) = " + (1L + (1L << 59)) + "; pending(1) = 4; pending(2) = 2; pending(3) = 8;"
                + " pending(12) = " + (1L << 48) + "; pending(22) = " + (1L << 58));
        Said.in(0, "that of all demanding users just those of T without u have in their caches").calls("reset(2,3,24); want(1,0);"
                + " want(2,1); store(0,3); schedule(1) = 24; pending(0) = 1; pending(3) = 8; want(0,0); schedule(1) = 35; pending(0) = 8;"
                + " pending(1) = 1; want(0,NONE); store(2,3); schedule(1) = 24; pending(0) = 8; pending(1) = 1");
    }

    private static void leaders() {
        Said.in(0, "only with those sets T that contain a leader").calls("reset(1,6,0); want(0,0); want(1,0); want(2,0); want(3,0);"
                + " want(4,0); want(5,0); schedule(1) = 72; schedule(2) = 12; want(0,NONE); schedule(1) = 60; schedule(2) = 12; want(1,NONE);"
                + " want(2,NONE); want(3,NONE); want(4,NONE); schedule(2) = 12; want(5,NONE); schedule(2) = 0; reset(2,4,12); storeSubsets(1); want(0,0);"
                + " want(1,0); want(2,1); want(3,1); schedule(1) = 18; schedule(2) = 15");
        // The least one leads though it misses nothing, or is absent.
        Run leader = Said.in(0, "The leader of a file is the least user that wants it").calls("reset(2,3,24); want(1,1); want(2,1); storeSubsets(0);"
                + " schedule(2) = 12; leave(1); schedule(2) = 12; store(1,12); schedule(2) = 12; pending(0) = 4096; pending(1) = 8192; drop(1,12);"
                + " want(1,0); schedule(2) = 24; want(1,NONE); want(2,NONE); schedule(2) = 0; sum(4096); send(0) = 5; want(0,1); want(1,1);"
                + " want(2,1); leave(0); schedule(2) = 11; pending(0) = 8192; want(0,NONE); schedule(2) = 12; pending(0) = 4096; reset(2,3,24)");
        // User 1 knows the whole file from sums; what is missing for user 2 alone is in no set with a leader.
        for (int piece = 12; piece < 24; piece++) {
            leader.calls("sum(" + (1L << piece) + "); send(5) = 2");
        }
        leader.calls("want(1,1); want(2,1); user(1,7) = 0; schedule(1) = 12; schedule(2) = 0; want(1,NONE); schedule(2) = 12");
    }

    private static void greedy() {
        Said.in(0, "A pair that is not yet served begins a group and a sum, which consists of its piece").calls("reset(5,6,60);"
                + " schedule(3) = 0; want(0,0); schedule(3) = 12; pending(0) = 1; pending(11) = 2048; want(5,0); schedule(3) = 12; want(5,4);"
                + " schedule(3) = 24; pending(12) = " + (1L << 48) + "; pending(23) = " + (1L << 59) + "; storeSubsets(6); schedule(3) = 0");
        // Six users, each with all but one piece: one sum serves them all.
        Said.in(0, "All pairs of the group are served").calls("reset(5,6,60); storeSubsets(6); drop(0,0); drop(1,12); drop(2,24); drop(3,36);"
                + " drop(4,48); drop(5,59); want(0,0); want(1,1); want(2,2); want(3,3); want(4,4); want(5,4); schedule(3) = 1; pending(0) = "
                + (1L + (1L << 12) + (1L << 24) + (1L << 36) + (1L << 48) + (1L << 59)) + "; drop(5,0); schedule(3) = 2; pending(0) = "
                + (1L + (1L << 12) + (1L << 24) + (1L << 36) + (1L << 48)) + "; pending(1) = " + (1L << 59));
        // User 1 joins with 12 and lacks 24: so user 2, which lacks only 24, cannot join any more.
        Said.in(0, "each user of the group has the piece of the pair in its cache").calls("reset(3,3,36); storeSubsets(3); drop(0,0);"
                + " drop(1,12); drop(2,24); want(0,0); want(1,1); want(2,2); schedule(3) = 1; pending(0) = 16781313; drop(1,24);"
                + " schedule(3) = 2; pending(0) = 4097; pending(1) = 16777216; drop(0,12); schedule(3) = 2; pending(0) = 16777217;"
                + " pending(1) = 4096");
        Said.in(0, "the user of the pair has all pieces of the sum in its cache, except for its own piece").calls("reset(2,2,24);"
                + " storeSubsets(2); drop(0,0); drop(1,12); want(0,0); want(1,1); schedule(3) = 1; pending(0) = 4097; drop(1,0);"
                + " schedule(3) = 2; pending(0) = 1; pending(1) = 4096");
        Said.in(0, "or it is the piece for which this user is in the group").calls("reset(1,2,12); storeSubsets(2); drop(0,0); drop(1,0);"
                + " want(0,0); want(1,0); schedule(3) = 1; pending(0) = 1; drop(1,1); schedule(3) = 2; pending(0) = 1; pending(1) = 2;"
                + " store(1,0); schedule(3) = 1; pending(0) = 3");
    }

    private static void plans() {
        Said.in(0, "The server has a list of at most 30 plans").calls("29 * plan(0,0,0); plan(0,0,0) = 30; plan(0,0,0) = FULL; idle(1) = 0;"
                + " plan(0,0,0) = 30; plan(0,0,0) = FULL");
        // The list is full, and the plan that leaves it is the last one; then one in the middle; then the first.
        Said.in(0, "When the server is idle for a tick, the plan with the greatest priority").calls("reset(3,1,36); 29 * plan(0,0,0);"
                + " plan(0,1,9) = 30; idle(1) = 1; cached(0,1) = 1; cached(0,0) = 0; count(5) = 29; plan(0,2,0) = 30; idle(29) = 1;"
                + " cached(0,0) = 1; cached(0,2) = 0; idle(1) = 1; cached(0,2) = 1; 15 * plan(0,3,3); plan(0,4,4); 14 * plan(0,5,3);"
                + " count(5) = 30; idle(1) = 1; cached(0,4) = 1; idle(15) = 1; cached(0,3) = 1; cached(0,5) = 0; idle(14) = 1;"
                + " cached(0,5) = 1; count(5) = 0; count(6) = 55");
        Said.in(0, "a plan consists of a user, a piece and a priority from 0 to 9").calls("reset(5,6,60); plan(5,59,9) = 1;"
                + " plan(0,0,0) = 2; plan(6,0,0) = BAD; plan(0,60,0) = BAD; plan(0,0,10) = BAD; plan(0,0,-1) = BAD; idle(1) = 1;"
                + " cached(5,59) = 1; cached(0,0) = 0; idle(1) = 1; cached(0,0) = 1");
        Said.in(0, "of several the one that was made first, leaves the list").calls("reset(1,1,12); plan(0,0,0); plan(0,1,9); plan(0,2,9);"
                + " plan(0,3,0); plan(0,4,9); idle(1) = 1; cached(0,1) = 1; idle(1) = 1; cached(0,2) = 1; plan(0,5,9); idle(1) = 1;"
                + " cached(0,4) = 1; idle(1) = 1; cached(0,5) = 1; idle(1) = 1; cached(0,0) = 1; idle(1) = 1; cached(0,3) = 1; count(5) = 0");
        // In vain: it has the piece; its cache is full; both; and not in vain if there is room for just one.
        Said.in(0, "otherwise the plan is in vain").calls("reset(1,2,2); store(0,0); plan(0,0,0); idle(1) = 0; count(6) = 1; plan(0,1,0);"
                + " idle(1) = 1; count(6) = 1; plan(0,2,0); idle(1) = 0; count(6) = 2; plan(0,1,0); idle(1) = 0; count(6) = 3; user(0,2) = 2;"
                + " plan(1,2,0); idle(1) = 1; count(6) = 3; count(5) = 0");
        Said.in(0, "and its cache has fewer pieces than the capacity, the piece comes into the cache").calls("plan(0,0,0); idle(1) = 0;"
                + " count(6) = 1; reset(5,1,60); storeSubsets(1); drop(0,59); plan(0,59,0); idle(1) = 1; user(0,2) = 60; plan(0,59,0);"
                + " idle(1) = 0; count(6) = 1; leave(0); drop(0,0); plan(0,0,0); idle(1) = 1; cached(0,0) = 1");
    }
}

import java.util.List;
import java.util.Random;

/** What the promises say beyond their boundary cases, in their order. */
final class PromisesSentences {
    private PromisesSentences() { }

    static void all() {
        contents();
        caches();
        fillings();
        plans();
        users();
        sums();
        numbersAboutUsers();
        proofs();
        need();
        bound();
        rates();
        texts();
        slotsAndCounts();
        digests();
    }

    private static void contents() {
        Said.in(2, "Begins anew").calls("reset(2,3,4) = 24; store(2,23) = 1; want(2,1); sum(3); send(0) = 7; sum(5); leave(1); plan(0,0,0);"
                + " setContent(0,1) = STATE; reset(3,2,1) = 36; count(0) = 3; count(1) = 2; count(2) = 1; count(3) = 0; count(4) = 0;"
                + " count(5) = 0; count(8) = 3; user(1,2) = 0; user(1,3) = 0; user(1,0) = NONE; setContent(0,1) = 11; reset(3,2,1) = 36;"
                + " setContent(0,1) = 11");
        Said.in(3, "Sets the content of a piece").calls("reset(1,1,3); store(0,4); store(0,5); store(0,6); setContent(5,77); decode(0,4) = 159;"
                + " decode(0,5) = 77; decode(0,6) = 233; setContent(5,0); decode(0,5) = 0; sum(32); send(0); drop(0,5); decode(0,5) = 0");
        Said.in(3, "Returns the content that it had").calls("setContent(5,77) = 196; setContent(5,78) = 77; setContent(5,78) = 78;"
                + " setContent(6,78) = 233; setContent(5,0) = 78");
    }

    private static void caches() {
        Said.in(4, "Puts a piece into a cache").calls("reset(2,2,4); store(1,17); cached(1,17) = 1; cached(0,17) = 0; cached(1,16) = 0;"
                + " cached(1,18) = 0; cached(1,5) = 0; decode(1,17) = 128; store(1,3); cached(1,17) = 1; cached(1,3) = 1");
        Said.in(4, "Returns the number of pieces in the cache").calls("reset(2,2,4); store(1,17) = 1; store(1,3) = 2; store(0,17) = 1;"
                + " drop(1,17); store(1,17) = 2; store(1,18) = 3; store(1,19) = 4; store(0,0) = 2");
        Said.in(5, "Removes a piece from a cache").calls("reset(2,2,4); store(1,17); store(1,3); store(0,17); drop(1,17); cached(1,17) = 0;"
                + " cached(1,3) = 1; cached(0,17) = 1; decode(1,17) = NONE; drop(1,3); user(1,2) = 0; user(0,2) = 1");
        Said.in(10, "Tells whether a piece is in a cache").calls("reset(2,2,4); store(1,17); cached(1,17) = 1; cached(1,16) = 0;"
                + " cached(0,17) = 0; storeSubsets(0); cached(1,17) = 0");
    }

    /** The seed 1 draws the parts 7, 6, 6, 1, 1, 11, 5, 5: the last one is had already, and becomes 6. */
    private static void fillings() {
        Said.in(6, "Fills all caches by subsets").calls("reset(2,4,12); storeSubsets(3) = FULL; storeSubsets(2) = 6; user(0,2) = 12; user(1,2) = 12;"
                + " user(2,2) = 12; user(3,2) = 12; cached(0,0) = 1; cached(1,0) = 1; cached(2,0) = 0; cached(3,0) = 0; cached(0,1) = 1;"
                + " cached(2,1) = 1; cached(1,2) = 1; cached(2,2) = 1; cached(0,3) = 1; cached(3,3) = 1; cached(1,4) = 1; cached(3,4) = 1;"
                + " cached(2,5) = 1; cached(3,5) = 1; cached(0,6) = 1; cached(1,6) = 1; cached(2,23) = 1; cached(3,23) = 1; cached(0,23) = 0");
        Said.in(6, "part j of each file is in the caches of the users of S(j modulo C)").calls("reset(5,2,30); storeSubsets(1) = 2; cached(0,0) = 1;"
                + " cached(1,1) = 1; cached(0,12) = 1; cached(1,13) = 1; cached(0,24) = 1; cached(1,25) = 1; cached(0,58) = 1; cached(1,59) = 1;"
                + " cached(0,59) = 0; cached(1,58) = 0");
        Said.in(6, "Returns C").calls("reset(1,5,12); storeSubsets(0) = 1; storeSubsets(1) = 5; storeSubsets(2) = 10; storeSubsets(3) = 10;"
                + " storeSubsets(4) = 5; storeSubsets(5) = 1");
        Said.in(7, "A number x is at first the seed").calls("reset(1,1,1); storeRandom(1) = 1; cached(0,7) = 1; storeRandom(48271) = 1;"
                + " cached(0,6) = 1; storeRandom(1291394886) = 1; cached(0,1) = 1; storeRandom(1) = 1; cached(0,7) = 1; user(0,2) = 1");
        Said.in(7, "For each user, and for each file, q parts are drawn").calls("reset(2,2,4); store(0,0); store(1,23); storeRandom(1) = 2;"
                + " cached(0,7) = 1; cached(0,6) = 1; cached(0,18) = 1; cached(0,13) = 1; user(0,2) = 4; cached(1,1) = 1; cached(1,11) = 1;"
                + " cached(1,17) = 1; cached(1,18) = 1; user(1,2) = 4");
        Said.in(7, "Returns q").calls("reset(3,2,20); storeRandom(5) = 6; reset(3,2,21); storeRandom(5) = 7; user(1,2) = 21; reset(2,2,60);"
                + " storeRandom(5) = 12; reset(4,2,3); storeRandom(5) = 0");
    }

    private static void plans() {
        Said.in(8, "Makes a plan").calls("reset(2,3,2); plan(2,17,4); cached(2,17) = 0; plan(1,3,5); count(5) = 2; idle(1) = 1; cached(1,3) = 1;"
                + " cached(2,17) = 0; idle(1) = 1; cached(2,17) = 1; cached(1,17) = 0; cached(2,3) = 0; count(5) = 0");
        Said.in(9, "The server is idle for some ticks").calls("reset(1,1,12); plan(0,0,0); plan(0,1,0); plan(0,2,0); plan(0,3,0); idle(2) = 2;"
                + " cached(0,1) = 1; cached(0,2) = 0; count(5) = 2; idle(1) = 1; cached(0,2) = 1; cached(0,3) = 0; count(5) = 1");
        Said.in(9, "Returns how many pieces came into caches").calls("reset(1,2,2); plan(0,0,0); plan(0,0,0); plan(0,1,0); plan(0,2,0); plan(1,5,0);"
                + " idle(5) = 3; count(6) = 2; idle(5) = 0");
    }

    private static void users() {
        Said.in(11, "Sets what a user wants").calls("reset(3,3,0); want(1,2); user(1,0) = 2; user(0,0) = NONE; user(2,0) = NONE; user(1,7) = 12;"
                + " schedule(0) = 12; pending(0) = 16777216; want(1,0); schedule(0) = 12; pending(0) = 1; want(1,NONE); schedule(0) = 0");
        Said.in(12, "Returns how many users are present").calls("reset(1,4,0); leave(2) = 3; leave(0) = 2; join(2) = 3; leave(3) = 2; leave(1) = 1");
        Said.in(13, "Returns how many users are present").calls("reset(1,4,0); leave(2); leave(0); leave(3); join(0) = 2; join(3) = 3; join(2) = 4");
    }

    private static void sums() {
        Said.in(14, "Returns the number of pending sums").calls("sum(1) = 1; sum(1) = 2; sum(6) = 3; send(0); sum(9) = 3; schedule(0); sum(1) = 1");
        Said.in(15, "Returns the number of pending sums").calls("reset(1,2,12); want(0,0); want(1,0); schedule(0) = 12; count(3) = 12; schedule(1) = 24;"
                + " count(3) = 24; storeSubsets(1); schedule(1) = 6; count(3) = 6; schedule(3) = 6; schedule(0) = 12");
        Said.in(16, "Sends the first pending sum").calls("reset(1,2,0); sum(4); sum(1); sum(2); send(0); sent(0) = 4; pending(0) = 1; decode(0,2) = 85;"
                + " decode(0,0) = NONE; send(1); sent(1) = 1; decode(0,0) = NONE; decode(1,0) = 11; send(0); sent(2) = 2; count(3) = 0");
        Said.in(16, "Returns the set of the users that received it").calls("reset(1,4,0); 6 * sum(1); send(0) = 15; send(5) = 10; leave(3); send(0) = 7;"
                + " send(1) = 6; send(8) = 7; leave(1); send(4) = 1; user(0,3) = 4; user(1,3) = 5; user(2,3) = 4; user(3,3) = 2");
        Said.in(17, "Puts a sum of the history at the end of the queue").calls("reset(1,2,0); sum(3); sum(6); sum(12); send(2); send(2); resend(1);"
                + " pending(0) = 12; pending(1) = 6; pending(2) = 0; resend(0); pending(2) = 3; count(4) = 2; sent(0) = 3; sent(1) = 6;"
                + " 3 * send(0); sent(3) = 6; sent(4) = 3; user(1,3) = 3; user(1,4) = 3");
        Said.in(17, "Returns the number of pending sums").calls("sum(1); sum(2); send(0); resend(0) = 2; resend(0) = 3; 3 * send(0); resend(3) = 1");
        Said.in(18, "Returns a pending sum").calls("sum(5); sum(9); sum(17); pending(0) = 5; pending(1) = 9; pending(2) = 17; send(0); pending(0) = 9;"
                + " pending(1) = 17; count(3) = 2");
        Said.in(18, "Returns the set of its pieces").calls("reset(3,1,0); sum(" + (1L << 35 | 5) + "); pending(0) = " + (1L << 35 | 5));
        Said.in(19, "Returns a sum of the history").calls("sum(5); sum(9); sum(17); send(0); sent(0) = 5; sent(1) = 0; send(1); sent(1) = 9; send(0);"
                + " sent(2) = 17; sent(0) = 5; count(4) = 3");
        Said.in(19, "Returns the set of its pieces").calls("reset(3,1,0); sum(" + (1L << 35 | 5) + "); send(0); sent(0) = " + (1L << 35 | 5));
    }

    /** The cache has 0, 1, 2, 3 and 36; the sums are 0+37, 4+5, 5+6, and four that follow from these. */
    private static void numbersAboutUsers() {
        String rows = "reset(4,2,5); store(0,0); store(0,1); store(0,2); store(0,3); store(0,36); want(0,3); sum(" + (1L << 37 | 1)
                + "); sum(48); sum(96); sum(80); sum(48); sum(1); sum(6); 7 * send(2)";
        Said.in(20, "Returns a number about a user").calls(rows + "; user(1,0) = NONE; user(1,1) = 1; user(1,2) = 0; user(1,3) = 0; user(1,4) = 0;"
                + " user(1,5) = 0; user(1,6) = 0; user(1,7) = 0; want(1,3); user(1,7) = 12; user(0,7) = 10");
        Said.in(20, "Returns the number").calls(rows + "; user(0,0) = 3; user(0,1) = 1; user(0,2) = 5; user(0,3) = 7; user(0,4) = 8; user(0,5) = 4;"
                + " user(0,6) = 6; user(0,7) = 10");
    }

    private static void proofs() {
        // The list: 0+1, 2, 1+2, 3+4, 0+5. Piece 1 follows from 2 and 1+2, then 0 and 5; 3 and 4 do not follow.
        Said.in(22, "Returns which sums of the list of a user are in the proof of a piece").calls("reset(1,2,1); sum(3); sum(4); sum(6); sum(24); sum(33);"
                + " 5 * send(2); proof(0,2) = 2; proof(0,1) = 6; proof(0,0) = 7; proof(0,5) = 23; proof(0,3) = -1; proof(1,2) = -1; store(0,4);"
                + " proof(0,3) = 8; proof(0,4) = 0");
        Said.in(22, "Returns the set of the indices of these sums in the list").calls("reset(1,2,0); sum(1); sum(2); sum(4); send(1) = 2; send(0);"
                + " send(0); proof(0,1) = 1; proof(1,1) = 2; proof(0,2) = 2; proof(1,2) = 4");
    }

    /** No sum makes the need less by more than one, and some piece alone makes it less by one. */
    private static void need() {
        Run run = Said.in(23, "Returns how many more sums a user needs at least, whatever they are, to know all pieces of the file that it wants");
        Random random = new Random(23);
        for (int round = 0; round < 40 && !run.muted; round++) {
            CodedCaching x = new CodedCaching();
            x.reset(2, 1, 24);
            x.storeRandom(1 + round);
            x.want(0, 0);
            for (int piece = 0; piece < 24; piece++) {
                if (random.nextInt(4) > 0) {
                    x.drop(0, piece);
                }
            }
            for (int i = 0; i < 8; i++) {
                int before = x.need(0);
                x.sum(1 + random.nextInt((1 << 24) - 1));
                x.send(0);
                int less = before - x.need(0);
                run.due("need(0) by a sum less by 0 or 1", less == 0 || less == 1 ? 1 : 0, 1);
            }
            serveByNeed(run, x);
        }
        Said.in(23, "Returns the number, 0 if it wants nothing").calls("reset(2,2,12); want(1,1); need(1) = 12; need(0) = 0; sum(" + (3L << 12)
                + "); send(1); need(1) = 11; user(1,7) = 12; sum(" + (1L << 13) + "); send(0); need(1) = 10; user(1,7) = 10; sum(1); send(0); need(1) = 10");
    }

    private static void serveByNeed(Run run, CodedCaching x) {
        int sums = x.need(0);
        for (int i = 0; i < sums; i++) {
            x.save(0);
            int before = x.need(0);
            for (int piece = 0; piece < 12 && x.need(0) == before; piece++) {
                x.restore(0);
                x.sum(1L << piece);
                x.send(0);
            }
        }
        run.due("missing after so many sums as need(0) told", x.user(0, 7), 0);
        run.due("need(0) then", x.need(0), 0);
    }

    /** With nothing received, no schedule that serves all has fewer sums than the bound. */
    private static void bound() {
        Run run = Said.in(24, "which is a lower bound for the number of sums that serve them if they received nothing yet");
        for (int round = 1; round <= 60 && !run.muted; round++) {
            CodedCaching x = new CodedCaching();
            x.reset(1 + round % 5, 1 + round % 6, round);
            x.storeRandom(round);
            for (int u = 0; u < x.count(1); u++) {
                x.want(u, (u * round) % x.count(0));
            }
            for (int method : new int[] {0, 1, 3}) {
                int sums = x.schedule(method);
                run.due("bound() is at most schedule(" + method + ")", x.bound() <= sums ? 1 : 0, 1);
                x.save(0);
                for (int i = 0; i < sums && i < 40; i++) {
                    x.send(0);
                }
                run.due("schedule(" + method + ") serves all", sums > 40 || x.count(7) == 0 ? 1 : 0, 1);
                x.restore(0);
            }
        }
        // File 0 for users 0 and 1, file 1 for user 2: each piece in a cache is counted once at most.
        Said.in(24, "Returns the bound").calls("reset(2,3,6); want(0,0); want(1,0); want(2,1); bound() = 24; store(0,0); store(1,1); bound() = 23;"
                + " store(2,0); bound() = 23; store(0,12); bound() = 23; store(2,12); bound() = 22; want(2,NONE); bound() = 11");
    }

    private static void rates() {
        String words = "Returns its bits, as Float.floatToIntBits returns them";
        Said.in(25, words).calls("rate() = 0; 12 * sum(1); 3 * send(0); rate() = 1048576000; 3 * send(0); rate() = 1056964608; 6 * send(0);"
                + " rate() = 1065353216; 4 * sum(1); 4 * send(0); rate() = " + Float.floatToIntBits(16f / 12f));
        Said.in(26, "(C(k, t + 1) - C(k - min(n, k), t + 1)) divided by C(k, t), both whole numbers as floats").calls("reset(2,4,0); formula(0) = 2f;"
                + " formula(1) = 1.25f; formula(2) = 0.6666667f; formula(3) = 0.25f; formula(4) = 0f; reset(3,6,0); formula(1) = 2f; formula(2) = "
                + Float.floatToIntBits(19f / 15f) + "; formula(3) = 0.75f; reset(5,3,0); formula(0) = 3f; formula(1) = 1f");
        Said.in(26, words).calls("reset(2,3,0); formula(0) = 1073741824; formula(1) = 1065353216; formula(2) = " + Float.floatToIntBits(1f / 3f)
                + "; formula(3) = 0; reset(1,3,0); formula(0) = 1065353216; formula(1) = " + Float.floatToIntBits(2f / 3f));
        Said.in(27, "let x be the float (k * c) divided by the float (12 * n)").calls("reset(2,3,8); sharedRate() = 1f; reset(2,3,16); sharedRate() = "
                + Float.floatToIntBits(1f / 3f) + "; reset(3,3,24); sharedRate() = " + Float.floatToIntBits(1f / 3f) + "; reset(3,2,18);"
                + " sharedRate() = 0.5f; reset(3,2,9); sharedRate() = 1.25f");
        // x = 2.75: t = 2 and y = 0.75; x = 0.75: t = 0; x = 1: y = 0.
        Said.in(27, "let t be x rounded down, and y be x minus the float t").calls("reset(1,3,11); sharedRate() = "
                + Float.floatToIntBits(1f / 3f + 0.75f * (0f - 1f / 3f)) + "; reset(1,3,3); sharedRate() = "
                + Float.floatToIntBits(1f + 0.75f * (2f / 3f - 1f)) + "; reset(1,3,4); sharedRate() = " + Float.floatToIntBits(2f / 3f));
        Said.in(27, words).calls("reset(2,2,6); sharedRate() = 1067450368; reset(2,2,12); sharedRate() = 1056964608; reset(2,2,0);"
                + " sharedRate() = 1073741824");
    }

    private static void texts() {
        Said.in(28, "Appends a byte to the text").calls("type(119) = 1; fault() = 1; type(48) = 2; type(48) = 3; type(59) = 4; fault() = NONE;"
                + " type(108) = 5; fault() = 5; type(48) = 6; type(59) = 7; run() = 2; user(0,0) = 0; user(0,1) = 0; type(65) = 8; fault() = 7");
        Said.in(30, "Returns the fault of the text").text("w00;").calls("fault() = NONE; type(120) = 5; fault() = 4; type(120) = 6; fault() = 4")
                .newText("w0").calls("fault() = 2; count(9) = 2; fault() = 2").newText("q1;z").calls("fault() = 3");
        Said.in(31, "Makes the calls of the text, one after the other").calls("reset(2,3,12); plan(2,5,5)").text("w21;q1;n2;w01;i3;s0;t4;l1;")
                .calls("run() = 8; why() = 0; user(2,0) = NONE; user(0,0) = 1; user(0,2) = 8; cached(2,5) = 1; count(5) = 0; count(6) = 1;"
                + " count(3) = 7; count(4) = 1; user(0,3) = 1; user(2,3) = 0; count(8) = 5").newText("j1;t0;").calls("run() = 2; count(8) = 7;"
                + " user(1,3) = 2; count(4) = 2");
        Said.in(32, "Tells why the latest run() that did not return STATE ended").text("l0;l0;j0;").calls("run() = 1; why() = STATE; why() = STATE")
                .newText("w01;").calls("why() = STATE; run() = 0; why() = BAD").newText("q1;").calls("run() = 0; why() = FULL")
                .newText("n0;").calls("run() = 1; why() = 0").newText("n").calls("run() = STATE; why() = 0");
    }

    private static void slotsAndCounts() {
        Said.in(34, "Returns the number of sums in the history").calls("sum(1); sum(2); sum(4); save(0) = 0; send(0); send(0); save(1) = 2; send(0);"
                + " restore(0) = 0; count(4) = 0; restore(1) = 2; count(4) = 2; count(3) = 1");
        String busy = "reset(2,5,7); store(0,3); plan(0,3,9); idle(1) = 0; 6 * plan(1,1,1); want(0,0); want(3,1); 3 * sum(6); 4 * sum(1); 4 * send(0);"
                + " leave(2); 9 * type(65)";
        Said.in(35, "Returns a number").calls(busy + "; count(3) = 3; count(4) = 4; count(6) = 1; count(9) = 9; count(0) = 2; count(3) = 3");
        Said.in(35, "Returns the number").calls(busy + "; count(0) = 2; count(1) = 5; count(2) = 7; count(3) = 3; count(4) = 4; count(5) = 6;"
                + " count(6) = 1; count(7) = 22; count(8) = 27; count(9) = 9");
    }

    /** User 0 has 3 and 12 and received 0+1 and 1; user 1 is away and wants the file 1; 5 is pending. */
    private static void digests() {
        List<Long> due = SlotsBoundaries.numbers(2, 2, 3, 1, 2, 1, 1, 12, 1, 2);
        SlotsBoundaries.contents(due, 2);
        due.set(10 + 7, 99L);
        due.set(10 + 23, 0L);
        due.addAll(SlotsBoundaries.numbers(-1, 1, 2, 2, 4, 0, 4, 0, 8 + 4096, 3, 2));
        due.addAll(SlotsBoundaries.numbers(1, 0, 0, 0, 0, 0, 0, 12, 0));
        due.addAll(SlotsBoundaries.numbers(32, 3, 2, 0, 12, 12));
        Said.in(36, "Returns a digest", "for each of the following numbers v, in this order, h becomes 31 * h + v", "count(0) to count(9)",
                "the content of each piece", "for each user, user(u, 0) to user(u, 7)",
                "the pending sums and those of the history as sets of pieces", "Returns h").calls("reset(2,2,3); setContent(7,99); setContent(23,0);"
                + " store(0,3); store(0,12); plan(0,3,0); idle(1) = 0; plan(1,1,1); want(1,1); leave(1); sum(3); sum(2); 2 * send(0); sum(32);"
                + " type(119); type(48); digest() = " + SlotsBoundaries.digestOf(due));
    }
}

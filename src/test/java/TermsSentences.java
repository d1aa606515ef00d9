/** What the sections 'What it is', 'Terms' and 'Not promised' say beyond their boundary cases, in their order. */
final class TermsSentences {
    private static final int TERMS = Document.TERMS;

    private TermsSentences() { }

    static void all() {
        whatItIs();
        overview();
        usersAndSets();
        rows();
        methods();
        greedy();
        letters();
        errors();
        examples();
        constants();
        notPromised();
    }

    /** Each user lacks four parts of each file; a sum has one for each of the three. */
    private static void whatItIs() {
        Said.in(Document.WHAT_IT_IS, "a server fills the caches of its users ahead of time, and then broadcasts sums of pieces of files, each"
                + " of which serves several users at once").calls("reset(3,3,24); storeSubsets(2) = 3; want(0,0); want(1,1); want(2,2);"
                + " count(7) = 12; schedule(1) = 4; pending(0) = " + (1L << 2 | 1L << 13 | 1L << 24) + "; send(0) = 7; count(7) = 9;"
                + " user(0,7) = 3; user(1,7) = 3; user(2,7) = 3; 3 * send(0); count(7) = 0; decode(0,2) = 85; decode(1,13) = 236;"
                + " decode(2,24) = 131; decode(0,13) = 236; decode(2,2) = 85; decode(1,24) = 131; rate() = 0.33333334f");
        Said.withoutTest(Document.WHAT_IT_IS, "what later calls answer is free");
    }

    private static void overview() {
        Said.in(TERMS, "Caches are filled by hand, by a scheme over subsets of users, at random, or piece by piece while the server is idle")
                .calls("reset(1,2,6); store(1,4) = 1; user(1,2) = 1; storeSubsets(1) = 2; user(1,2) = 6; cached(1,4) = 0; storeRandom(1) = 6;"
                + " user(0,2) = 6; user(1,2) = 6; cached(0,7) = 1; reset(1,2,6); plan(1,4,0) = 1; plan(0,5,0) = 2; cached(1,4) = 0; idle(1) = 1;"
                + " cached(1,4) = 1; cached(0,5) = 0; idle(1) = 1; cached(0,5) = 1");
        for (int method : new int[] {0, 1, 3}) {
            allAreServed(method);
        }
        // User 1 misses the first sum, user 2 is away for the second one and comes back for the third.
        Said.in(TERMS, "users can miss a sum, leave, and join later").calls("reset(1,3,0); sum(1); sum(2); sum(4); send(2) = 5; leave(2) = 2;"
                + " send(0) = 3; join(2) = 3; send(0) = 7; decode(0,0) = 11; decode(0,1) = 48; decode(0,2) = 85; decode(1,0) = NONE;"
                + " decode(1,1) = 48; decode(1,2) = 85; decode(2,0) = 11; decode(2,1) = NONE; decode(2,2) = 85");
        // Over whole numbers 0+1, 1+2 and 0+2 would tell all three; over single bits the third one tells nothing.
        Said.in(TERMS, "Users decode pieces from their caches and from the sums that they received, by linear algebra over single bits")
                .calls("reset(1,2,1); sum(3); sum(6); sum(5); 3 * send(0); user(0,4) = 2; user(0,5) = 1; decode(0,0) = NONE; decode(0,2) = NONE;"
                + " store(0,1) = 1; decode(0,0) = 11; decode(0,1) = 48; decode(0,2) = 85; decode(1,0) = NONE; sum(7); send(0);"
                + " decode(1,0) = 11; decode(1,1) = 48; decode(1,2) = 85");
        Said.in(TERMS, "which sums were needed for a piece, how many more a user needs at least, a lower bound for all users together, and"
                + " rates as they are known from theory").calls("reset(2,2,12); storeSubsets(1) = 2; want(0,0); want(1,1); bound() = 6; need(0) = 6;"
                + " schedule(1) = 6; 2 * send(0); need(0) = 4; need(1) = 4; proof(0,1) = 1; proof(0,3) = 2; proof(0,5) = -1; formula(1) = 0.5f;"
                + " sharedRate() = 0.5f; rate() = 0.16666667f; reset(2,4,0); formula(1) = 1.25f");
    }

    private static void allAreServed(int method) {
        Run run = Said.in(TERMS, "When users want files, the server schedules sums by several methods and sends them").calls("reset(3,4,18);"
                + " storeRandom(" + (99 + method) + ") = 6; want(0,2); want(1,0); want(2,1); want(3,2); schedule(" + method + ")");
        for (int left = run.object.count(3); left > 0; left--) {
            run.calls("send(0) = 15");
        }
        run.calls("count(3) = 0; count(7) = 0");
        int[] wanted = {2, 0, 1, 2};
        for (int u = 0; u < 4; u++) {
            for (int piece = 12 * wanted[u]; piece < 12 * wanted[u] + 12; piece++) {
                run.calls("decode(" + u + "," + piece + ") = " + (37 * piece + 11) % 256);
            }
        }
    }

    private static void usersAndSets() {
        Said.in(TERMS, "it wants a file or nothing").calls("reset(3,2,0); user(0,0) = NONE; want(0,2) = NONE; user(0,0) = 2; user(0,7) = 12;"
                + " user(1,0) = NONE; user(1,7) = 0; want(0,1) = 2; user(0,0) = 1; want(0,NONE) = 1; user(0,0) = NONE; user(0,7) = 0");
        Said.in(TERMS, "it is present or not").calls("reset(1,2,0); user(1,1) = 1; leave(1) = 1; user(1,1) = 0; user(0,1) = 1; sum(1);"
                + " send(0) = 1; join(1) = 2; user(1,1) = 1; sum(1); send(0) = 3");
        Run users = Said.in(TERMS, "Sets of users are written as numbers in which bit u stands for user u").calls("reset(1,6,0); 12 * sum(1)");
        Run pieces = Said.in(TERMS, "sets of pieces as numbers in which bit p stands for piece p").calls("reset(5,1,60)");
        for (int u = 0; u < 6; u++) {
            int bit = 1 << u;
            users.calls("leave(" + u + ") = 5; count(8) = " + (63 - bit) + "; send(0) = " + (63 - bit) + "; join(" + u + ") = 6; send(" + bit
                    + ") = " + (63 - bit) + "; user(" + u + ",3) = " + 2 * u);
            for (int other = 0; other < u; other++) {
                users.calls("user(" + other + ",3) = " + 2 * u);
            }
        }
        for (int p = 0; p < 60; p++) {
            long bit = 1L << p;
            pieces.calls("sum(" + bit + ") = 1; pending(0) = " + bit + "; send(0) = 1; sent(" + p + ") = " + bit + "; decode(0," + p + ") = "
                    + (37 * p + 11) % 256 + "; decode(0," + (p + 1) % 60 + ") = NONE");
        }
    }

    private static void rows() {
        // 1 xor 2 xor 4 xor 128: the byte of the sum, and the last piece is what remains of it.
        Said.in(TERMS, "A row is a set of pieces the exclusive or of whose contents a user knows").calls("reset(1,2,3); setContent(0,1);"
                + " setContent(1,2); setContent(2,4); setContent(3,128); sum(15); send(0) = 3; store(0,0); store(0,1); decode(0,3) = NONE;"
                + " store(0,2); decode(0,3) = 128; decode(0,2) = 4; user(0,4) = 4; user(1,4) = 1; user(1,6) = 0; store(1,3); store(1,2);"
                + " decode(1,0) = NONE; store(1,1); decode(1,0) = 1");
        Said.in(TERMS, "otherwise it is independent").calls("reset(1,1,2); store(0,0); user(0,4) = 1; user(0,5) = 0; sum(3); send(0); user(0,4) = 2;"
                + " user(0,5) = 0; sum(2); send(0); user(0,4) = 2; user(0,5) = 1; sum(12); send(0); user(0,4) = 3; user(0,5) = 1; store(0,11);"
                + " user(0,4) = 4; user(0,5) = 1");
        // Of 0+1+2, 2+3 and 3 the first two pieces stay unknown, as only 0+1 follows.
        Said.in(TERMS, "The user knows a piece if the set of this piece alone is, as a number, the exclusive or of some of its rows").calls(
                "reset(1,1,1); sum(7); sum(12); send(0); user(0,6) = 0; send(0); user(0,6) = 0; decode(0,2) = NONE; sum(8); send(0); user(0,6) = 2;"
                + " decode(0,3) = 122; decode(0,2) = 85; decode(0,0) = NONE; decode(0,1) = NONE; store(0,1); user(0,6) = 4; decode(0,0) = 11;"
                + " proof(0,0) = 7");
    }

    /**
     * Pieces 0 and 1 are missing for the users 0 and 1, 12 for user 2, who has 1 but not 0. Each method
     * gives another number of sums.
     */
    private static void methods() {
        Run run = Said.in(TERMS, "The methods are:").calls("reset(2,3,24); storeSubsets(3) = 1; drop(0,0); drop(0,1); drop(1,0); drop(1,1); drop(2,0);"
                + " drop(2,12); want(0,0); want(1,0); want(2,1); schedule(0) = 3; pending(0) = 1; pending(1) = 2; pending(2) = 4096");
        run.calls("schedule(1) = 5; pending(0) = 4096; pending(1) = 2; pending(2) = 2; pending(3) = 1; pending(4) = 1; pending(5) = 0");
        run.calls("schedule(2) = 4; pending(0) = 4096; pending(1) = 2; pending(2) = 2; pending(3) = 1; pending(4) = 0");
        run.calls("schedule(3) = 2; pending(0) = 1; pending(1) = 4098; pending(2) = 0");
        // The lists are in ascending order whatever order the pieces were taken from the caches in.
        Said.in(TERMS, "For each user u of T there is a list of pieces, in ascending order").calls("reset(2,2,24); storeSubsets(2); drop(0,9);"
                + " drop(0,2); drop(1,23); drop(1,12); drop(1,17); want(0,0); want(1,1); schedule(1) = 3; pending(0) = " + (1L << 2 | 1L << 12)
                + "; pending(1) = " + (1L << 9 | 1L << 17) + "; pending(2) = " + (1L << 23));
    }

    private static void greedy() {
        Said.in(TERMS, "the pairs of a user and a piece that is missing for it are gone through in the order of users, then of pieces").calls(
                "reset(2,2,24); storeSubsets(2); drop(0,12); drop(0,0); drop(1,0); want(0,1); want(1,0); schedule(3) = 2; pending(0) = 4096;"
                + " pending(1) = 1; drop(0,20); schedule(3) = 3; pending(0) = 4096; pending(1) = 1048576; pending(2) = 1");
        Said.in(TERMS, "Then all later pairs that are not yet served are gone through in the same order").calls("reset(2,2,24); storeSubsets(2);"
                + " drop(0,0); drop(1,13); drop(1,12); want(0,0); want(1,1); schedule(3) = 2; pending(0) = 4097; pending(1) = 8192");
        // User 2 lacks 12, too, which is in the sum since user 1 joined.
        Said.in(TERMS, "Its piece becomes a part of the sum then").calls("reset(3,3,36); storeSubsets(3); drop(0,0); drop(1,12); drop(2,24);"
                + " drop(2,12); want(0,0); want(1,1); want(2,2); schedule(3) = 2; pending(0) = 4097; pending(1) = 16777216; store(2,12);"
                + " schedule(3) = 1; pending(0) = 16781313");
        // The first sum serves one user, the second one two: the group of the first began before.
        Said.in(TERMS, "The sums are in the order in which their groups began").calls("reset(2,2,24); storeSubsets(2); drop(0,0); drop(0,1);"
                + " drop(1,0); drop(1,12); want(0,0); want(1,1); schedule(3) = 2; pending(0) = 1; pending(1) = 4098; drop(0,7); drop(1,13);"
                + " schedule(3) = 3; pending(0) = 1; pending(1) = 4098; pending(2) = 8320");
    }

    /** Each letter with the call that it stands for. */
    private static void letters() {
        String state = "reset(3,3,12); plan(1,7,5); plan(1,8,4); plan(1,9,3)";
        Said.in(TERMS, "scenario = { call \";\" }").calls(state).text("w01;w12;").calls("fault() = NONE; run() = 2; user(0,0) = 1; user(1,0) = 2")
                .text("n0").calls("fault() = 10; run() = STATE").text(";;").calls("fault() = 11; run() = STATE; user(0,0) = 1");
        Said.in(TERMS, "\"w\" user file").calls(state).text("w12;").calls("run() = 1; user(1,0) = 2; user(2,0) = NONE").newText("w1;").calls("fault() = 2");
        Said.in(TERMS, "\"n\" user").calls(state + "; want(1,2); want(2,0)").text("n1;").calls("run() = 1; user(1,0) = NONE; user(2,0) = 0");
        Said.in(TERMS, "\"q\" number").calls(state).text("q1;").calls("run() = 1; user(0,2) = 12; cached(1,1) = 1").newText("q01;").calls("run() = 1");
        Said.in(TERMS, "\"i\" number").calls(state).text("i1;").calls("run() = 1; cached(1,7) = 1; count(5) = 2").newText("i10;").calls("run() = 1;"
                + " count(5) = 0; count(6) = 0");
        Said.in(TERMS, "\"s\" method").calls(state + "; want(0,0); want(1,0)").text("s1;").calls("run() = 1; count(3) = 24").newText("s2;")
                .calls("run() = 1; count(3) = 12").newText("s12;").calls("fault() = 2");
        Said.in(TERMS, "\"t\" number").calls(state + "; sum(1); sum(2)").text("t5;").calls("run() = 1; user(0,3) = 0; user(1,3) = 1; user(2,3) = 0;"
                + " sent(0) = 1").newText("t10;").calls("run() = 1; user(0,3) = 1; user(1,3) = 1; user(2,3) = 1");
        Said.in(TERMS, "\"l\" user").calls(state).text("l1;").calls("run() = 1; count(8) = 5; run() = 0; why() = STATE");
        Said.in(TERMS, "\"j\" user").calls(state + "; leave(1); leave(2)").text("j1;").calls("run() = 1; count(8) = 3; run() = 0; why() = STATE");
    }

    /** Each call that can return the error returns it here. */
    private static void errors() {
        Said.in(TERMS, "BAD: an argument is out of range, or names something that does not exist").calls("reset(2,2,2); reset(0,2,2) = BAD;"
                + " setContent(24,0) = BAD; setContent(0,256) = BAD; store(2,0) = BAD; store(0,24) = BAD; drop(2,0) = BAD; drop(0,24) = BAD;"
                + " storeSubsets(3) = BAD; storeRandom(0) = BAD; plan(2,0,0) = BAD; plan(0,24,0) = BAD; plan(0,0,10) = BAD; idle(0) = BAD;"
                + " cached(2,0) = BAD; cached(0,24) = BAD; want(2,0) = BAD; want(0,2) = BAD; leave(2) = BAD; join(2) = BAD; sum(0) = BAD;"
                + " sum(16777216) = BAD; schedule(4) = BAD; send(64) = BAD; resend(0) = BAD; user(2,0) = BAD; user(0,8) = BAD; decode(2,0) = BAD;"
                + " decode(0,24) = BAD; need(2) = BAD; formula(3) = BAD; type(128) = BAD; save(2) = BAD; restore(2) = BAD; count(10) = BAD");
        Said.in(TERMS, "STATE: the call is not possible now, as the method says").calls("reset(1,1,2); store(0,0) = 1; store(0,0) = STATE;"
                + " drop(0,1) = STATE; join(0) = STATE; leave(0) = 0; leave(0) = STATE; send(0) = STATE; sum(1) = 1; idle(1) = STATE;"
                + " send(0) = 0; setContent(0,0) = STATE; type(65) = 1; run() = STATE; restore(0) = STATE; restore(1) = STATE");
        Said.in(TERMS, "FULL: a limit would be exceeded").calls("reset(1,1,1); store(0,0) = 1; store(0,1) = FULL; storeSubsets(1) = FULL;"
                + " 30 * plan(0,0,0); plan(0,0,0) = FULL; 80 * type(65); type(65) = FULL; 100 * sum(1); sum(1) = FULL; 100 * send(0);"
                + " 100 * sum(1); send(0) = FULL; resend(0) = FULL");
    }

    private static void examples() {
        for (String example : Document.examples()) {
            Said.in(TERMS, "Each of them begins with a new object").calls(example);
        }
        Said.withoutTest(TERMS, "the results are given behind the calls");
    }

    private static void constants() {
        Said.in(TERMS, "The constants: `BAD = -101, STATE = -102, FULL = -103`: Error codes").due("BAD", CodedCaching.BAD, -101)
                .due("STATE", CodedCaching.STATE, -102).due("FULL", CodedCaching.FULL, -103).calls("store(0,0) = -103; drop(0,0) = -102;"
                + " store(1,0) = -101");
        Said.in(TERMS, "`NONE = -1`: There is no such thing").due("NONE", CodedCaching.NONE, -1).calls("fault() = -1; why() = -1;"
                + " decode(0,0) = -1");
        Said.in(TERMS, "no file is wanted").calls("user(0,0) = -1; want(0,0) = -1; want(0,-1) = 0; user(0,0) = -1");
    }

    private static void notPromised() {
        Said.withoutTest(Document.NOT_PROMISED, "How the state is held inside the object is free, as are the speed of each call, the text of"
                + " toString and the behaviour of equals and hashCode");
        Said.withoutTest(Document.NOT_PROMISED, "Use of one object from several threads at once is not promised to be safe");
        Said.withoutTest(Document.NOT_PROMISED, "Nothing is promised beyond the answers and state changes described above");
    }
}

/** Boundary cases of the errors, as the section 'Terms' has them: two at once, and what they leave as it was. */
final class ErrorsBoundaries {
    private static final String FIRST = "If several errors apply, the one that comes first in this list is returned";
    private static final String NOTHING = "A call that returns an error changes nothing";

    private ErrorsBoundaries() { }

    static void all() {
        badBeforeState();
        badBeforeFull();
        stateBeforeFull();
        errorBeforeNone();
        refusedByNewObject();
        refusedByFullObject();
        refusedByBusyObject();
        lastOf512Calls();
    }

    private static void badBeforeState() {
        Said.in(0, FIRST).calls("sum(1); send(0); setContent(0,5) = STATE; setContent(12,5) = BAD; setContent(-1,5) = BAD;"
                + " setContent(0,256) = BAD; setContent(0,-1) = BAD; setContent(12,256) = BAD");
        Said.in(0, FIRST).calls("drop(0,0) = STATE; drop(0,12) = BAD; drop(1,0) = BAD; drop(-1,-1) = BAD; drop(0,MAX) = BAD");
        Said.in(0, FIRST).calls("sum(1); idle(1) = STATE; idle(0) = BAD; idle(51) = BAD; idle(MIN) = BAD; idle(MAX) = BAD");
        Said.in(0, FIRST).calls("leave(0) = 0; leave(0) = STATE; leave(1) = BAD; leave(-1) = BAD; join(1) = BAD; join(0) = 1;"
                + " join(0) = STATE; join(1) = BAD; join(-1) = BAD");
        Said.in(0, FIRST).calls("send(0) = STATE; send(64) = BAD; send(-1) = BAD; send(MIN) = BAD; send(MAX) = BAD");
        Said.in(0, FIRST).calls("restore(0) = STATE; restore(1) = STATE; restore(2) = BAD; restore(-1) = BAD; restore(MAX) = BAD");
    }

    private static void badBeforeFull() {
        Said.in(0, FIRST).calls("store(0,0) = FULL; store(0,12) = BAD; store(0,-1) = BAD; store(1,0) = BAD; store(-1,0) = BAD;"
                + " store(MAX,MIN) = BAD");
        Said.in(0, FIRST).calls("storeSubsets(1) = FULL; storeSubsets(2) = BAD; storeSubsets(-1) = BAD; storeSubsets(MAX) = BAD");
        Said.in(0, FIRST).calls("30 * plan(0,0,0); plan(0,0,0) = FULL; plan(1,0,0) = BAD; plan(0,12,0) = BAD; plan(0,0,10) = BAD;"
                + " plan(-1,0,0) = BAD; plan(0,-1,0) = BAD; plan(0,0,-1) = BAD");
        Said.in(0, FIRST).calls("100 * sum(1); sum(1) = FULL; sum(0) = BAD; sum(4096) = BAD; sum(-1) = BAD; sum(LONGMIN) = BAD;"
                + " resend(0) = BAD; send(0); sum(1); resend(0) = FULL; resend(1) = BAD; resend(-1) = BAD");
        Said.in(0, FIRST).calls("100 * sum(1); 100 * send(0); sum(1); send(0) = FULL; send(64) = BAD; send(-1) = BAD");
        Said.in(0, FIRST).calls("80 * type(32); type(32) = FULL; type(128) = BAD; type(-1) = BAD; type(MIN) = BAD; type(MAX) = BAD");
    }

    private static void stateBeforeFull() {
        Said.in(0, FIRST).calls("reset(1,1,1); store(0,0) = 1; store(0,1) = FULL; store(0,0) = STATE; store(0,12) = BAD");
        // Nothing is pending and 100 were sent: STATE; with a user that is out of range, too: BAD.
        Said.in(0, FIRST).calls("100 * sum(1); 100 * send(0); send(0) = STATE; send(63) = STATE; send(64) = BAD; sum(1); send(0) = FULL;"
                + " schedule(0) = 0; send(0) = STATE");
    }

    private static void errorBeforeNone() {
        Said.in(0, "NONE is no error").calls("want(0,NONE) = NONE; want(0,0) = NONE; user(0,0) = 0; decode(0,0) = NONE; fault() = NONE;"
                + " why() = NONE; proof(0,0) = NONE").text("n0;n0;").calls("run() = 2; why() = 0");
        Said.in(0, "is returned only if no error applies").calls("decode(0,0) = NONE; decode(0,12) = BAD; decode(1,0) = BAD;"
                + " decode(-1,-1) = BAD; want(1,NONE) = BAD; want(-1,NONE) = BAD; want(0,-2) = BAD; user(1,0) = BAD; user(0,8) = BAD;"
                + " user(0,0) = NONE");
    }

    private static void refusedByNewObject() {
        Said.in(0, NOTHING).calls("reset(0,1,1) = BAD; reset(1,7,1) = BAD; reset(1,1,61) = BAD; setContent(0,256) = BAD;"
                + " setContent(12,0) = BAD; store(0,0) = FULL; store(0,12) = BAD; drop(0,0) = STATE; storeSubsets(1) = FULL;"
                + " storeSubsets(2) = BAD; storeRandom(0) = BAD; storeRandom(MAX) = BAD; plan(0,0,10) = BAD; plan(1,0,0) = BAD;"
                + " idle(0) = BAD; idle(51) = BAD; cached(0,12) = BAD; want(0,1) = BAD; want(1,0) = BAD; leave(1) = BAD; join(0) = STATE;"
                + " sum(0) = BAD; sum(4096) = BAD; schedule(4) = BAD; schedule(-1) = BAD; send(0) = STATE; send(64) = BAD; resend(0) = BAD;"
                + " user(0,8) = BAD; decode(0,12) = BAD; need(1) = BAD; formula(2) = BAD; type(128) = BAD; save(2) = BAD; restore(0) = STATE;"
                + " restore(2) = BAD; count(10) = BAD");
    }

    private static void refusedByFullObject() {
        Run run = Said.in(0, NOTHING).calls("reset(5,6,59); setContent(59,7) = 146; storeRandom(7) = 11; want(0,0); want(5,4);"
                + " leave(2) = 5; save(1) = 0; 100 * sum(3); 100 * send(1); 100 * sum(6); 10 * plan(3,3,3); 10 * plan(4,4,9);"
                + " 10 * plan(5,5,6); save(0) = 100; 78 * type(32)");
        run.text("l2").calls("reset(6,1,1) = BAD; reset(5,6,-1) = BAD; setContent(59,8) = STATE; setContent(60,8) = BAD;"
                + " storeSubsets(6) = FULL; storeSubsets(7) = BAD; storeRandom(-1) = BAD; plan(0,0,0) = FULL; plan(6,0,0) = BAD;"
                + " idle(50) = STATE; idle(51) = BAD; want(5,5) = BAD; want(6,4) = BAD; leave(2) = STATE; leave(6) = BAD; join(0) = STATE;"
                + " join(6) = BAD; sum(1) = FULL; sum(0) = BAD; schedule(4) = BAD; send(0) = FULL; send(64) = BAD; resend(99) = FULL;"
                + " resend(100) = BAD; type(59) = FULL; type(128) = BAD; run() = STATE; save(-1) = BAD; restore(-1) = BAD");
        run.calls("store(0,60) = BAD; store(6,0) = BAD; drop(0,60) = BAD; drop(6,0) = BAD; restore(2) = BAD; save(2) = BAD");
    }

    private static void refusedByBusyObject() {
        Run run = Said.in(0, NOTHING).calls("reset(3,3,4); setContent(30,9); store(0,1); store(0,2); store(0,13); store(0,35); store(2,35);"
                + " plan(1,2,3); plan(1,4,9); plan(0,1,9); idle(2) = 1; want(0,0); want(2,1); leave(1); sum(3); sum(6); sum(24);"
                + " send(0) = 5; send(1) = 4; plan(2,2,2); save(0) = 2; sum(7)").text("l1;w0");
        run.calls("store(0,1) = STATE; store(0,3) = FULL; store(3,0) = BAD; drop(1,0) = STATE; drop(0,3) = STATE; drop(0,36) = BAD;"
                + " storeSubsets(1) = FULL; storeSubsets(3) = FULL; storeSubsets(4) = BAD; storeRandom(MIN) = BAD; plan(1,36,1) = BAD;"
                + " idle(1) = STATE; want(0,3) = BAD; want(3,0) = BAD; leave(1) = STATE; join(0) = STATE; sum(" + (1L << 36) + ") = BAD;"
                + " schedule(5) = BAD; send(-1) = BAD; resend(2) = BAD; run() = STATE; restore(1) = STATE; reset(3,3,61) = BAD;"
                + " setContent(0,0) = STATE; user(3,0) = BAD; decode(3,0) = BAD; need(-1) = BAD; formula(4) = BAD; count(-1) = BAD");
        // Also a call within run() that returns an error changes nothing.
        Run within = Said.in(0, NOTHING).calls("reset(3,3,4); store(0,1); store(0,2); store(0,13); store(0,35); plan(1,2,3); plan(2,2,2);"
                + " want(0,0); leave(1); sum(7)");
        within.newText("l1;l0;").calls("run() = 0; why() = STATE; count(8) = 5").newText("q3;").calls("run() = 0; why() = FULL; user(0,2) = 4;"
                + " cached(0,35) = 1").newText("i9;").calls("run() = 0; count(5) = 2").newText("w03;").calls("run() = 0; user(0,0) = 0;"
                + " send(0); idle(1) = 1; cached(1,2) = 1; cached(2,2) = 0");
    }

    /** An object is used for at most 512 calls: the last one still answers as it is due. */
    private static void lastOf512Calls() {
        Run run = Said.in(Document.WHAT_IT_IS, "An object is used for at most 512 calls after it has been made");
        CodedCaching object = new CodedCaching();
        run.due("reset(5,6,0)", object.reset(5, 6, 0), 60);
        for (int round = 0; round < 255; round++) {
            run.due("plan(5,59,9)", object.plan(5, 59, 9), 1);
            run.due("idle(50)", object.idle(50), 0);
        }
        run.due("count(6), the last one of 512 calls", object.count(6), 255);
    }
}

/** Promises 1 to 13: files, users, caches. */
public final class CachesTest {
    public static void main(String[] args) {
        newObject();
        reset();
        setContent();
        store();
        drop();
        storeSubsets();
        storeRandom();
        plan();
        idle();
        cached();
        want();
        leave();
        join();
        Run.end();
    }

    private static void newObject() {
        new Run("1 new object").calls("count(0) = 1; count(1) = 1; count(2) = 0; count(3) = 0; count(4) = 0;"
                + " count(5) = 0; count(6) = 0; count(7) = 0; count(8) = 1; count(9) = 0; user(0,0) = NONE;"
                + " user(0,1) = 1; user(0,2) = 0; user(0,3) = 0; user(1,0) = BAD; pending(0) = 0; sent(0) = 0;"
                + " fault() = NONE; why() = NONE; restore(0) = STATE; restore(1) = STATE; store(0,0) = FULL;"
                + " want(0,1) = BAD; sum(4096) = BAD; setContent(0,0) = 11; setContent(11,0) = 162;"
                + " setContent(12,0) = BAD");
    }

    private static void reset() {
        Run run = new Run("2 reset").calls("reset(1,1,0) = 12; reset(5,6,60) = 60; reset(3,4,25) = 36;"
                + " count(0) = 3; count(1) = 4; count(2) = 25; count(8) = 15");
        run.calls("reset(0,1,0) = BAD; reset(6,1,0) = BAD; reset(1,0,0) = BAD; reset(1,7,0) = BAD;"
                + " reset(1,1,-1) = BAD; reset(1,1,61) = BAD; reset(MIN,MAX,MIN) = BAD; reset(MAX,1,1) = BAD;"
                + " count(0) = 3; count(1) = 4; count(2) = 25");
        everythingBeginsAnew();
        textSlotsAndWhyStay();
    }

    private static void everythingBeginsAnew() {
        Run run = new Run("2 reset, everything else").calls("reset(2,2,3); setContent(4,9) = 159; store(0,1) = 1;"
                + " plan(0,1,2) = 1; idle(1) = 0; count(6) = 1; plan(1,1,2) = 1; want(1,1) = NONE; leave(0) = 1;"
                + " sum(3) = 1; sum(4) = 2; send(0) = 2; reset(2,2,3) = 24");
        run.calls("setContent(4,159) = 159; cached(0,1) = 0; count(3) = 0; count(4) = 0; count(5) = 0;"
                + " count(6) = 0; count(7) = 0; count(8) = 3; user(1,0) = NONE; user(1,3) = 0; sent(0) = 0;"
                + " pending(0) = 0");
        run.due("digest of a reset", run.object.digest(), new Run("new").calls("reset(2,2,3)").object.digest());
    }

    private static void textSlotsAndWhyStay() {
        new Run("2 reset, what stays").text("l0;l0;").calls("run() = 1; why() = STATE; save(1) = 0;"
                + " reset(2,2,2) = 24; count(9) = 6; why() = STATE; count(8) = 3; run() = 1; restore(1) = 0;"
                + " count(0) = 1; count(8) = 0");
    }

    private static void setContent() {
        new Run("3 setContent").calls("reset(5,1,1); setContent(0,255) = 11; setContent(0,0) = 255;"
                + " setContent(59,7) = 146; setContent(59,8) = 7; setContent(60,0) = BAD; setContent(-1,0) = BAD;"
                + " setContent(0,-1) = BAD; setContent(0,256) = BAD; setContent(MIN,MAX) = BAD;"
                + " sum(1) = 1; setContent(0,77) = 0; send(1) = 0; setContent(0,5) = STATE;"
                + " setContent(0,256) = BAD; setContent(60,5) = BAD; reset(5,1,1) = 60; setContent(0,5) = 11");
        new Run("3 setContent, seen by a later sum").calls("reset(1,1,0); sum(3) = 1; setContent(0,200) = 11;"
                + " setContent(1,1) = 48; sum(1) = 2; send(0) = 1; send(0) = 1; decode(0,0) = 200;"
                + " decode(0,1) = 1");
    }

    private static void store() {
        new Run("4 store").calls("reset(5,2,3); store(0,59) = 1; store(0,0) = 2; store(1,0) = 1; store(0,7) = 3;"
                + " store(0,7) = STATE; store(0,8) = FULL; store(0,60) = BAD; store(0,-1) = BAD; store(2,0) = BAD;"
                + " store(-1,0) = BAD; store(MAX,MIN) = BAD; cached(0,59) = 1; cached(0,8) = 0; user(0,2) = 3;"
                + " user(1,2) = 1");
        Run full = new Run("4 store, the greatest capacity").calls("reset(5,6,60)");
        for (int piece = 0; piece < 60; piece++) {
            full.calls("store(5," + piece + ") = " + (piece + 1));
        }
        full.calls("user(5,2) = 60; user(5,4) = 60; user(5,6) = 60; store(5,59) = STATE; store(5,60) = BAD;"
                + " user(4,2) = 0");
    }

    private static void drop() {
        new Run("5 drop").calls("reset(5,2,3); drop(0,0) = STATE; store(0,0) = 1; store(0,59) = 2; drop(0,0) = 1;"
                + " drop(0,0) = STATE; drop(1,59) = STATE; cached(0,0) = 0; cached(0,59) = 1; drop(0,59) = 0;"
                + " drop(0,60) = BAD; drop(0,-1) = BAD; drop(2,0) = BAD; drop(-1,0) = BAD; user(0,2) = 0");
        new Run("5 drop makes room").calls("reset(1,1,1); store(0,1) = 1; store(0,2) = FULL; drop(0,1) = 0;"
                + " store(0,2) = 1");
    }

    private static void storeSubsets() {
        new Run("6 storeSubsets, sizes").calls("reset(1,6,12); storeSubsets(0) = 1; user(0,2) = 0;"
                + " storeSubsets(1) = 6; user(0,2) = 2; storeSubsets(2) = 15; storeSubsets(3) = 20;"
                + " storeSubsets(4) = 15; storeSubsets(5) = 6; user(5,2) = 10; storeSubsets(6) = 1; user(5,2) = 12;"
                + " storeSubsets(7) = BAD; storeSubsets(-1) = BAD; storeSubsets(MIN) = BAD; user(0,2) = 12");
        // Sets of 2 out of 3 users in ascending order: {0,1}, {0,2}, {1,2}.
        new Run("6 storeSubsets, order").calls("reset(2,3,16); store(2,0) = 1; storeSubsets(2) = 3;"
                + " cached(0,0) = 1; cached(1,0) = 1; cached(2,0) = 0; cached(0,1) = 1; cached(1,1) = 0;"
                + " cached(2,1) = 1; cached(0,2) = 0; cached(1,2) = 1; cached(2,2) = 1; cached(2,3) = 0;"
                + " cached(0,23) = 0; cached(1,23) = 1; cached(2,23) = 1; user(2,2) = 16");
        // With 15 sets the last three are for no part: {2,5}, {3,5} and {4,5}.
        new Run("6 storeSubsets, more sets than parts").calls("reset(1,6,6); storeSubsets(2) = 15; user(0,2) = 5;"
                + " user(1,2) = 5; user(2,2) = 4; user(3,2) = 4; user(4,2) = 4; user(5,2) = 2; cached(5,11) = 1;"
                + " cached(1,11) = 1; cached(0,10) = 1; cached(5,10) = 1");
        new Run("6 storeSubsets, capacity").calls("reset(2,2,11); store(0,5) = 1; storeSubsets(1) = FULL;"
                + " cached(0,5) = 1; user(1,2) = 0; storeSubsets(3) = BAD; storeSubsets(0) = 1; user(0,2) = 0;"
                + " reset(2,2,12); storeSubsets(1) = 2; user(0,2) = 12; storeSubsets(2) = FULL; user(0,2) = 12;"
                + " reset(2,2,24); storeSubsets(2) = 1");
        // The first 12 sets of 4 out of 6 users give 9 parts to the users 0 to 2, and 7 to the others.
        new Run("6 storeSubsets, some caches too small").calls("reset(1,6,8); storeSubsets(4) = FULL; user(0,2) = 0;"
                + " user(5,2) = 0; reset(1,6,9); storeSubsets(4) = 15; user(0,2) = 9; user(1,2) = 9; user(2,2) = 9;"
                + " user(3,2) = 7; user(4,2) = 7; user(5,2) = 7");
        // Those of 3 give 8 parts to user 0, and at most 7 to the others.
        new Run("6 storeSubsets, one cache too small").calls("reset(1,6,7); storeSubsets(3) = FULL; user(1,2) = 0;"
                + " reset(1,6,8); storeSubsets(3) = 20; user(0,2) = 8; user(1,2) = 7");
        // The first 12 sets of 2 give 5 parts to the users 0 and 1, and 2 to user 5: the last one alone fits.
        new Run("6 storeSubsets, nothing is filled if one does not fit").calls("reset(1,6,4); store(5,0) = 1;"
                + " storeSubsets(2) = FULL; user(5,2) = 1; user(2,2) = 0; cached(5,0) = 1");
    }

    private static void storeRandom() {
        // The seed 1 gives 48271, 182605794, 1291394886: the parts 7, 6, 6.
        new Run("7 storeRandom").calls("reset(1,1,3); store(0,0) = 1; storeRandom(1) = 3; cached(0,0) = 0;"
                + " cached(0,7) = 1; cached(0,6) = 1; cached(0,8) = 1; user(0,2) = 3");
        new Run("7 storeRandom, one sequence for all").calls("reset(2,1,3); storeRandom(1) = 1; cached(0,7) = 1;"
                + " cached(0,18) = 1; user(0,2) = 2; reset(1,3,1); storeRandom(1) = 1; cached(0,7) = 1;"
                + " cached(1,6) = 1; cached(2,6) = 1");
        // The greatest seed is -1 modulo 2147483647: x is 2147435376 at first, part 0.
        new Run("7 storeRandom, seeds").calls("reset(1,1,1); storeRandom(2147483646) = 1; cached(0,0) = 1;"
                + " storeRandom(MAX) = BAD; storeRandom(0) = BAD; storeRandom(-1) = BAD; storeRandom(MIN) = BAD;"
                + " cached(0,0) = 1");
        new Run("7 storeRandom, q").calls("reset(1,2,60); storeRandom(5) = 12; user(0,2) = 12; user(1,2) = 12;"
                + " reset(5,2,60); storeRandom(5) = 12; user(1,2) = 60; reset(5,2,59); storeRandom(5) = 11;"
                + " user(1,2) = 55; reset(5,2,4); store(0,0) = 1; storeRandom(5) = 0; user(0,2) = 0;"
                + " reset(4,6,0); storeRandom(9) = 0");
    }

    private static void plan() {
        Run run = new Run("8 plan").calls("reset(5,6,1); plan(0,0,0) = 1; plan(5,59,9) = 2; plan(5,59,9) = 3;"
                + " plan(6,0,0) = BAD; plan(-1,0,0) = BAD; plan(0,60,0) = BAD; plan(0,-1,0) = BAD;"
                + " plan(0,0,10) = BAD; plan(0,0,-1) = BAD; count(5) = 3; cached(0,0) = 0").times(27, "plan(1,1,1)");
        run.calls("count(5) = 30; plan(0,0,0) = FULL; plan(0,0,10) = BAD; plan(6,0,0) = BAD; count(5) = 30;"
                + " idle(1) = 1; cached(5,59) = 1; plan(0,0,0) = 30");
    }

    private static void idle() {
        new Run("9 idle, order").calls("reset(1,2,12); plan(0,1,3); plan(0,2,9); plan(1,3,9); plan(0,4,0);"
                + " plan(1,1,3); idle(1) = 1; cached(0,2) = 1; count(5) = 4; idle(1) = 1; cached(1,3) = 1;"
                + " idle(1) = 1; cached(0,1) = 1; cached(1,1) = 0; idle(1) = 1; cached(1,1) = 1; cached(0,4) = 0;"
                + " idle(50) = 1; cached(0,4) = 1; count(5) = 0; count(6) = 0; idle(50) = 0; count(6) = 0");
        new Run("9 idle, in vain").calls("reset(1,2,2); store(0,1) = 1; plan(0,1,5); plan(0,2,4); plan(0,3,3);"
                + " plan(1,3,2); idle(4) = 2; cached(0,2) = 1; cached(0,3) = 0; cached(1,3) = 1; count(6) = 2");
        new Run("9 idle, the order stays").calls("reset(1,1,1); plan(0,1,1); plan(0,2,2); plan(0,3,1); idle(1) = 1;"
                + " drop(0,2) = 0; idle(1) = 1; cached(0,1) = 1; drop(0,1) = 0; idle(1) = 1; cached(0,3) = 1");
        new Run("9 idle, errors").calls("reset(1,1,1); plan(0,0,0); idle(0) = BAD; idle(51) = BAD; idle(-1) = BAD;"
                + " idle(MIN) = BAD; sum(1) = 1; idle(1) = STATE; idle(50) = STATE; idle(0) = BAD; count(5) = 1;"
                + " send(0) = 1; idle(1) = 1; idle(1) = 0");
        new Run("9 idle, ticks").calls("reset(1,1,12)").times(30, "plan(0,0,0)").calls("idle(10) = 1;"
                + " count(5) = 20; count(6) = 9; idle(50) = 0; count(5) = 0; count(6) = 29");
    }

    private static void cached() {
        new Run("10 cached").calls("reset(5,6,2); cached(0,0) = 0; store(5,59) = 1; cached(5,59) = 1;"
                + " cached(5,58) = 0; cached(4,59) = 0; cached(6,0) = BAD; cached(-1,0) = BAD; cached(0,60) = BAD;"
                + " cached(0,-1) = BAD; cached(MIN,MAX) = BAD");
        new Run("10 cached, not what is only known").calls("reset(1,1,1); sum(1); send(0); decode(0,0) = 11;"
                + " cached(0,0) = 0");
    }

    private static void want() {
        new Run("11 want").calls("reset(5,6,2); want(5,4) = NONE; want(5,4) = 4; want(5,0) = 4; user(5,0) = 0;"
                + " want(5,NONE) = 0; want(5,NONE) = NONE; want(5,5) = BAD; want(5,-2) = BAD; want(6,0) = BAD;"
                + " want(-1,NONE) = BAD; want(0,MAX) = BAD; want(0,MIN) = BAD; user(0,0) = NONE; leave(0) = 5;"
                + " want(0,3) = NONE; user(0,0) = 3");
    }

    private static void leave() {
        new Run("12 leave").calls("reset(2,3,2); store(1,4) = 1; want(1,1) = NONE; sum(3); send(0) = 7;"
                + " leave(1) = 2; leave(1) = STATE; leave(3) = BAD; leave(-1) = BAD; leave(MAX) = BAD;"
                + " count(8) = 5; user(1,1) = 0; user(1,0) = 1; user(1,2) = 1; user(1,3) = 1; sum(5);"
                + " send(0) = 5; user(1,3) = 1; user(0,3) = 2; leave(0) = 1; leave(2) = 0; count(8) = 0; sum(5);"
                + " send(0) = 0; count(4) = 3");
    }

    private static void join() {
        new Run("13 join").calls("reset(2,3,2); join(0) = STATE; join(3) = BAD; join(-1) = BAD; join(MIN) = BAD;"
                + " leave(0) = 2; leave(2) = 1; join(2) = 2; count(8) = 6; join(2) = STATE; sum(1); send(0) = 6;"
                + " join(0) = 3; user(0,1) = 1; user(0,3) = 0; sum(1); send(0) = 7; user(0,3) = 1; user(2,3) = 2");
    }
}

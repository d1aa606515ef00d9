/** Promises 20 to 24: knowledge. */
public final class KnowledgeTest {
    public static void main(String[] args) {
        user();
        decode();
        proof();
        need();
        bound();
        Run.end();
    }

    private static void user() {
        // Rows: 0 and 5 of the cache, then 0+1, 2+3, 0+1+5 (dependent), 3+4, 2+4 (dependent), 12+13.
        Run run = new Run("20 user").calls("reset(2,2,2); store(0,5); store(0,0); want(0,0); sum(3); sum(12); sum(35);"
                + " sum(24); sum(20); sum(12288)").times(6, "send(2)");
        run.calls("user(0,0) = 0; user(0,1) = 1; user(0,2) = 2; user(0,3) = 6; user(0,4) = 6; user(0,5) = 2;"
                + " user(0,6) = 3; user(0,7) = 9; user(1,0) = NONE; user(1,1) = 1; user(1,2) = 0; user(1,3) = 0;"
                + " user(1,4) = 0; user(1,5) = 0; user(1,6) = 0; user(1,7) = 0");
        run.calls("want(0,1); user(0,0) = 1; user(0,7) = 12; want(0,NONE); user(0,0) = NONE; user(0,7) = 0;"
                + " leave(0); user(0,1) = 0; join(0); sum(4); send(2); user(0,4) = 7; user(0,6) = 6; want(0,0);"
                + " user(0,7) = 6; drop(0,5) = 1; user(0,4) = 7; user(0,5) = 1; user(0,6) = 6");
        run.calls("user(2,0) = BAD; user(-1,0) = BAD; user(0,8) = BAD; user(0,-1) = BAD; user(MAX,MIN) = BAD");
    }

    private static void decode() {
        new Run("21 decode").calls("reset(2,2,2); store(0,5); setContent(5,3) = 196; setContent(6,250) = 233;"
                + " decode(0,5) = 3; decode(0,6) = NONE; sum(96); sum(4160); send(0) = 3; send(0) = 3;"
                + " decode(0,6) = 250; decode(0,12) = 199; decode(0,5) = 3; decode(1,6) = NONE; decode(1,12) = NONE;"
                + " decode(0,24) = BAD; decode(0,-1) = BAD; decode(2,0) = BAD; decode(-1,0) = BAD; decode(MIN,MAX) = BAD;"
                + " drop(0,5); decode(0,6) = NONE");
        new Run("21 decode, every piece").calls("reset(5,1,60); storeRandom(1) = 12; decode(0,0) = 11; decode(0,7) = 14;"
                + " decode(0,59) = 146; decode(0,60) = BAD");
    }

    private static void proof() {
        // The list: 0+1, 1+2, 0+2 (dependent), 2; of 0, 1 and 2 alone each has one proof.
        Run run = new Run("22 proof").calls("reset(1,2,1); store(0,7); sum(3); sum(6); sum(5); sum(132)").times(4, "send(2)");
        run.calls("proof(0,0) = 11; proof(0,1) = 10; proof(0,2) = 8; proof(0,7) = 0; proof(0,3) = -1; proof(1,0) = -1;"
                + " proof(2,0) = -1; proof(-1,0) = -1; proof(0,12) = -1; proof(0,-1) = -1; proof(MAX,MIN) = -1");
        // A sum that comes later does not replace an earlier proof, and what is in the cache needs none.
        run.calls("sum(1); send(2); proof(0,0) = 11; store(1,0) = 1; proof(1,0) = 0; drop(0,7); store(0,2);"
                + " proof(0,2) = 0; proof(0,1) = 2; proof(0,0) = 3; proof(0,7) = 8");
        new Run("22 proof, just the rows that are needed").calls("reset(1,1,0); sum(3); sum(6); sum(11)").times(3, "send(0)")
                .calls("proof(0,3) = 5; reset(1,1,0); sum(7); sum(10); sum(6)").times(3, "send(0)").calls("proof(0,0) = 5");
        Run chain = new Run("22 proof, 40 sums").calls("reset(5,1,0)");
        for (int piece = 0; piece < 39; piece++) {
            chain.calls("sum(" + (3L << piece) + "); send(0)");
        }
        chain.calls("proof(0,0) = -1; sum(" + (1L << 39) + "); send(0); proof(0,0) = " + ((1L << 40) - 1)
                + "; proof(0,39) = " + (1L << 39) + "; proof(0,38) = " + (3L << 38) + "; decode(0,0) = 11; user(0,4) = 40");
    }

    private static void need() {
        new Run("23 need").calls("reset(2,2,12); need(0) = 0; want(0,0); need(0) = 12; store(0,0); need(0) = 11;"
                + " store(0,12); need(0) = 11; sum(6); send(0); need(0) = 10; sum(6); send(0); need(0) = 10; sum(8200);"
                + " send(0); need(0) = 10; sum(8192); send(0); need(0) = 9; want(0,NONE); need(0) = 0; need(1) = 0;"
                + " want(1,1); need(1) = 11; need(2) = BAD; need(-1) = BAD; need(MAX) = BAD; need(MIN) = BAD");
        // A sum of pieces of two files tells nothing about one of them alone.
        new Run("23 need, sums with other files").calls("reset(2,1,0); want(0,0); sum(4097); send(0); need(0) = 12;"
                + " sum(4098); send(0); need(0) = 11; user(0,7) = 12");
    }

    private static void bound() {
        new Run("24 bound").calls("reset(2,2,12); bound() = 0; want(0,0); bound() = 12; want(1,0); bound() = 12; want(1,1);"
                + " bound() = 24; store(0,0); bound() = 23; store(0,12); bound() = 23; store(1,12); bound() = 22;"
                + " leave(0); leave(1); bound() = 22; want(0,NONE); bound() = 11; want(1,NONE); bound() = 0");
        // Only what the users before have in their caches is left out: the greatest order counts.
        new Run("24 bound, orders").calls("reset(3,3,12); store(0,12); store(0,13); store(0,24); store(1,24); store(1,0);"
                + " store(2,1); store(2,2); store(2,3); want(0,0); want(1,1); want(2,2); bound() = 34");
        new Run("24 bound, the user with a full cache last").calls("reset(2,2,3); store(0,12); store(0,13); store(0,14);"
                + " want(0,0); want(1,1); bound() = 24; reset(2,2,3); store(1,0); store(1,1); want(0,0); want(1,1); bound() = 24");
        new Run("24 bound, what was received does not count").calls("reset(1,1,1); want(0,0); store(0,3); sum(1); send(0);"
                + " bound() = 11; need(0) = 10");
        // User 0 wants nothing: its cache does not matter.
        new Run("24 bound, demanding users").calls("reset(1,2,12); storeSubsets(2); drop(1,4); drop(1,5); want(1,0);"
                + " bound() = 2; want(0,0); bound() = 2");
        Run six = new Run("24 bound, six users").calls("reset(5,6,0)");
        for (int u = 0; u < 6; u++) {
            six.calls("want(" + u + "," + u % 5 + ")");
        }
        six.calls("bound() = 60; reset(5,6,60); want(0,0); want(5,4); bound() = 24; storeSubsets(6) = 1; bound() = 0");
    }
}

/** Boundary cases of the promises 20 to 27: knowledge, and rates. */
final class KnowledgeBoundaries {
    private KnowledgeBoundaries() { }

    static void all() {
        user();
        eachNumber();
        decode();
        proof();
        need();
        bound();
        rate();
        formula();
        sharedRate();
    }

    private static void user() {
        Boundary.users(20, "user(#,2)");
        Run what = Said.in(20, "`what`: 0 for the file that it wants (NONE for nothing)").calls("reset(5,2,0); user(1,0) = NONE;"
                + " want(1,0); user(1,0) = 0; want(1,4); user(1,0) = 4; want(1,NONE); user(1,0) = NONE; user(0,0) = NONE");
        Boundary.edges(what, "user(0,#)", 0, 7);
    }

    /** Each of the numbers at its least and its greatest. */
    private static void eachNumber() {
        Said.in(20, "1 for 1 if it is present, else 0").calls("reset(1,6,0); user(0,1) = 1; user(5,1) = 1; leave(5); user(5,1) = 0;"
                + " user(4,1) = 1; join(5); user(5,1) = 1");
        Said.in(20, "2 for the number of pieces in its cache").calls("reset(5,6,60); user(5,2) = 0; store(5,59); user(5,2) = 1;"
                + " storeSubsets(6); user(5,2) = 60; drop(5,0); user(5,2) = 59; storeSubsets(0); user(5,2) = 0");
        Said.in(20, "3 for the number of sums in its list").calls("user(0,3) = 0; 100 * sum(1); send(0); user(0,3) = 1; send(1);"
                + " user(0,3) = 1; 38 * send(0); user(0,3) = 39; send(0); user(0,3) = 40; send(0); user(0,3) = 40; 58 * send(0);"
                + " user(0,3) = 40; count(4) = 100");
        Run rank = Said.in(20, "4 for its rank").calls("reset(5,1,60); user(0,4) = 0; storeSubsets(1) = 1; user(0,4) = 60");
        Run known = Said.in(20, "6 for the number of pieces that it knows").calls("reset(5,1,60); user(0,6) = 0;"
                + " storeSubsets(1) = 1; user(0,6) = 60");
        rank.calls("reset(5,1,20)");
        known.calls("reset(5,1,20)");
        for (int piece = 0; piece < 20; piece++) {
            rank.calls("store(0," + piece + ")");
            known.calls("store(0," + piece + ")");
        }
        // 20 cached pieces and a list of 40 sums: just all 60; each sum has the next piece, too.
        for (int piece = 59; piece >= 20; piece--) {
            String call = "sum(" + ((3L << piece) & ((1L << 60) - 1)) + "); send(0)";
            rank.calls(call + "; user(0,4) = " + (80 - piece));
            known.calls(call + "; user(0,6) = " + (80 - piece));
        }
        rank.calls("user(0,5) = 0; sum(1); send(0); user(0,4) = 59; user(0,5) = 1");
        known.calls("sum(1); send(0); user(0,6) = 20");
        Said.in(20, "5 for the number of dependent rows").calls("user(0,5) = 0; 40 * sum(3); send(0); user(0,5) = 0; send(0);"
                + " user(0,5) = 1; 38 * send(0); user(0,5) = 39; reset(5,1,60); storeSubsets(1); user(0,5) = 0; 41 * sum(" + (1L << 59)
                + "); 39 * send(0); user(0,5) = 39; send(0); user(0,5) = 40; send(0); user(0,5) = 40");
        Said.in(20, "7 for the number of pieces that are missing for it").calls("reset(5,1,60); user(0,7) = 0; want(0,4);"
                + " user(0,7) = 12; store(0,47); user(0,7) = 12; store(0,48); user(0,7) = 11; storeSubsets(1); user(0,7) = 0;"
                + " drop(0,59); user(0,7) = 1; sum(" + (3L << 58) + "); send(0); user(0,7) = 0; want(0,NONE); user(0,7) = 0");
    }

    private static void decode() {
        Boundary.users(21, "decode(#,3)");
        Boundary.pieces(21, "decode(1,#)");
        Said.in(21, "NONE if the user does not know the piece").calls("decode(0,0) = NONE; decode(0,11) = NONE; reset(1,2,1);"
                + " store(0,0); decode(0,0) = 11; decode(1,0) = NONE; sum(6); send(0); decode(0,1) = NONE; decode(0,2) = NONE; sum(3);"
                + " send(2); decode(0,1) = 48; decode(0,2) = 85; decode(1,1) = NONE; drop(0,0); decode(0,0) = NONE; decode(0,1) = NONE");
        Said.in(21, "Returns the byte").calls("reset(1,1,1); setContent(0,0); setContent(1,255); setContent(2,255); store(0,0);"
                + " decode(0,0) = 0; sum(3); send(0); decode(0,1) = 255; sum(6); send(0); decode(0,2) = 255; reset(1,1,1);"
                + " setContent(0,200); setContent(1,100); setContent(2,50); store(0,0); sum(3); sum(6); 2 * send(0); decode(0,2) = 50; proof(0,2) = 3");
        Said.in(21, "the exclusive or of the contents of the cached pieces and of the bytes of the sums of its proof").calls(
                "reset(5,1,60); storeSubsets(1); drop(0,59); decode(0,59) = NONE; sum(" + ((1L << 60) - 1) + "); send(0); decode(0,59) = 146; proof(0,59) = 1");
    }

    private static void proof() {
        Run users = Said.in(22, "`user`: the user");
        for (int k = 1; k <= 6; k++) {
            users.calls("reset(1," + k + ",0); sum(8); send(0); proof(0,3) = 1; proof(" + (k - 1) + ",3) = 1");
            Boundary.refused(users, "proof(#,3)", 0, k - 1, "-1");
        }
        Run pieces = Said.in(22, "`piece`: the piece");
        for (int n = 1; n <= 5; n++) {
            pieces.calls("reset(" + n + ",1,0); sum(1); sum(" + (1L << (12 * n - 1)) + "); 2 * send(0); proof(0,0) = 1;"
                    + " proof(0," + (12 * n - 1) + ") = 2");
            Boundary.refused(pieces, "proof(0,#)", 0, 12 * n - 1, "-1");
        }
        Said.in(22, "(0 if the piece is in the cache)").calls("reset(5,1,2); store(0,0); store(0,59); proof(0,0) = 0;"
                + " proof(0,59) = 0; sum(1); send(0); proof(0,0) = 0; drop(0,0); proof(0,0) = 1; store(0,0); proof(0,0) = 0");
        Said.in(22, "-1 if there is no such user or piece, or the user does not know the piece").calls("proof(0,0) = -1;"
                + " proof(1,0) = -1; proof(0,12) = -1; proof(-1,-1) = -1; sum(3); send(0); proof(0,0) = -1; proof(0,1) = -1; sum(1);"
                + " send(0); proof(0,0) = 2; proof(0,1) = 3; proof(0,2) = -1");
        Run bits = Said.in(22, "as a number with bit i for index i").calls("reset(5,1,0)");
        // The list ends with 39 and begins with 0+1: piece 0 needs all 40 sums, then the list has lost the first.
        for (int piece = 0; piece < 39; piece++) {
            bits.calls("sum(" + (3L << piece) + "); send(0)");
        }
        bits.calls("sum(" + (1L << 39) + "); send(0); proof(0,0) = " + ((1L << 40) - 1) + "; proof(0,39) = " + (1L << 39)
                + "; proof(0,31) = " + (((1L << 9) - 1) << 31) + "; sum(1); send(0); proof(0,0) = " + (1L << 39) + "; proof(0,1) = "
                + ((1L << 39) - 1) + "; proof(0,39) = " + (1L << 38));
    }

    private static void need() {
        Boundary.users(23, "need(#)");
        Said.in(23, "0 if it wants nothing").calls("need(0) = 0; want(0,0); need(0) = 12; want(0,NONE); need(0) = 0;"
                + " sum(1); send(0); need(0) = 0");
        Said.in(23, "the rank that it would have if these pieces were in its rows, too, minus its rank").calls("reset(5,1,60);"
                + " want(0,4); need(0) = 12; storeSubsets(1); need(0) = 0; drop(0,59); need(0) = 1; drop(0,58); need(0) = 2; sum("
                + (3L << 58) + "); send(0); need(0) = 1; user(0,7) = 2; sum(" + (1L << 59) + "); send(0); need(0) = 0; storeSubsets(0);"
                + " need(0) = 10; 40 * sum(1); 40 * send(0); need(0) = 12");
    }

    private static void bound() {
        Said.in(24, "0 if no user wants anything").calls("bound() = 0; want(0,0); bound() = 12; want(0,NONE); bound() = 0;"
                + " reset(5,6,60); bound() = 0; storeSubsets(6); bound() = 0");
        Said.in(24, "Returns the greatest value, over all orders of the demanding users").calls("reset(5,6,60); want(5,4);"
                + " bound() = 12; want(4,3); want(3,2); want(2,1); want(1,0); bound() = 60; want(0,0); bound() = 60; leave(0); leave(5);"
                + " bound() = 60; storeSubsets(6); bound() = 0; drop(5,59); bound() = 1; drop(0,59); bound() = 1");
        // When each of three users has a piece that the one before it wants, no order is without a loss.
        Said.in(24, "neither in its cache, nor in that of a user before it").calls("reset(3,3,12); storeSubsets(0); want(0,0);"
                + " want(1,1); want(2,2); bound() = 36; store(0,12); store(0,13); bound() = 36; store(1,24); bound() = 36; store(2,0);"
                + " bound() = 35; store(0,0); bound() = 35; store(1,0); bound() = 35; store(1,12); store(1,13); bound() = 33");
        Said.in(24, "that do not belong to a file that a user before it wants").calls("reset(1,6,1); want(0,0); want(1,0);"
                + " bound() = 12; want(2,0); want(3,0); want(4,0); want(5,0); bound() = 12; store(0,0); bound() = 12; store(1,0);"
                + " store(2,0); store(3,0); store(4,0); bound() = 12; store(5,0); bound() = 11");
    }

    private static void rate() {
        Said.in(25, "the float (number of sums in the history) divided by the float 12").calls("rate() = 0; 100 * sum(1);"
                + " rate() = 0f; send(0); rate() = 0.083333336f; 11 * send(0); rate() = 1f; 11 * send(1); rate() = 1.9166666f; send(0);"
                + " rate() = 2f; 75 * send(0); rate() = 8.25f; send(0); rate() = 8.333333f; sum(1); send(0) = FULL; rate() = 8.333333f;"
                + " reset(5,6,60); rate() = 0f");
    }

    private static void formula() {
        Run size = Said.in(26, "`t`: the size of the subsets, 0 to the number of users");
        for (int n = 1; n <= 5; n++) {
            for (int k = 1; k <= 6; k++) {
                size.calls("reset(" + n + "," + k + ",0); formula(0) = " + Math.min(n, k) + "f; formula(" + k + ") = 0f");
                Boundary.refused(size, "formula(#)", 0, k, "BAD");
            }
        }
        // With as many files as users, or more, nothing is subtracted.
        Said.in(26, "(0 if b is greater than a)").calls("reset(5,5,0); formula(1) = 2f; formula(4) = 0.2f; reset(5,4,0);"
                + " formula(1) = 1.5f; formula(3) = 0.25f; reset(5,6,0); formula(0) = 5f; formula(1) = 2.5f; formula(5) = 0.16666667f;"
                + " reset(1,6,0); formula(0) = 1f; formula(1) = 0.8333333f; formula(4) = 0.33333334f; formula(5) = 0.16666667f;"
                + " reset(1,1,0); formula(0) = 1f; formula(1) = 0f");
    }

    private static void sharedRate() {
        Said.in(27, "but at most the float k").calls("reset(1,6,12); sharedRate() = 0f; reset(1,6,13); sharedRate() = 0f;"
                + " reset(1,6,60); sharedRate() = 0f; reset(5,6,60); sharedRate() = 0f; reset(1,1,60); sharedRate() = 0f;"
                + " reset(4,6,48); sharedRate() = 0f; reset(4,6,60); sharedRate() = 0f");
        // One less than all: x is 5.5, so the rate is the half of formula(5), which is 1/6.
        Said.in(27, "the rate is a if y is 0").calls("sharedRate() = 1f; reset(5,6,0); sharedRate() = 5f; reset(5,6,10);"
                + " sharedRate() = 2.5f; reset(1,6,2); sharedRate() = 0.8333333f; reset(2,2,12); sharedRate() = 0.5f");
        Said.in(27, "and otherwise a + y * (b - a)").calls("reset(1,6,11); sharedRate() = " + shared(5.5f, 5, 1f / 6f, 0f)
                + "; reset(1,1,11); sharedRate() = " + shared(11f / 12f, 0, 1f, 0f) + "; reset(5,1,1); sharedRate() = "
                + shared(1f / 60f, 0, 1f, 0f) + "; reset(5,1,59); sharedRate() = " + shared(59f / 60f, 0, 1f, 0f)
                + "; reset(5,6,59); sharedRate() = " + shared(354f / 60f, 5, 1f / 6f, 0f) + "; reset(5,6,1); sharedRate() = "
                + shared(6f / 60f, 0, 5f, 2.5f));
    }

    private static int shared(float x, int t, float a, float b) {
        float y = x - (float) t;
        return Float.floatToIntBits(a + y * (b - a));
    }
}

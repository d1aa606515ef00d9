/** Boundary cases of the promises 1 to 13: files, users, caches. */
final class CachesBoundaries {
    private CachesBoundaries() { }

    static void all() {
        newObject();
        reset();
        setContent();
        store();
        drop();
        storeSubsets();
        fullBySubsets();
        storeRandom();
        plan();
        idle();
        cached();
        want();
        leave();
        join();
    }

    private static void newObject() {
        Said.in(1, "with one file, one user and the capacity 0").calls("count(0) = 1; count(1) = 1; count(2) = 0;"
                + " cached(0,0) = 0; cached(0,11) = 0; cached(0,12) = BAD; cached(1,0) = BAD; want(0,1) = BAD;"
                + " store(0,0) = FULL; store(0,11) = FULL; store(0,12) = BAD; store(1,0) = BAD; sum(2048) = 1; sum(4096) = BAD");
        Said.in(1, "with an empty text").calls("count(9) = 0; fault() = NONE; clearText() = 0; type(59) = 1");
        Run fresh = Said.in(1, "Creates a server").calls("count(3) = 0; count(4) = 0; count(5) = 0; count(6) = 0;"
                + " count(7) = 0; count(8) = 1; user(0,0) = NONE; user(0,1) = 1; user(0,2) = 0; user(0,3) = 0; why() = NONE;"
                + " pending(0) = 0; sent(0) = 0; restore(0) = STATE; restore(1) = STATE; idle(1) = 0; send(0) = STATE");
        fresh.due("digest()", fresh.object.digest(), new Run("1 as by reset").calls("reset(1,1,0)").object.digest());
    }

    private static void reset() {
        Run files = Said.in(2, "`files`: the number of files, 1 to 5").calls("reset(1,3,4) = 12; reset(5,3,4) = 60");
        Boundary.edges(files, "reset(#,3,4)", 1, 5);
        files.calls("count(0) = 5; count(1) = 3; count(2) = 4");
        Run users = Said.in(2, "`users`: the number of users, 1 to 6").calls("reset(2,1,4) = 24; count(8) = 1;"
                + " reset(2,6,4) = 24; count(8) = 63");
        Boundary.edges(users, "reset(2,#,4)", 1, 6);
        users.calls("count(0) = 2; count(1) = 6; count(2) = 4");
        Run capacity = Said.in(2, "`capacity`: the capacity, 0 to 60").calls("reset(2,3,0) = 24; store(0,0) = FULL;"
                + " reset(2,3,60) = 24; store(0,0) = 1");
        Boundary.edges(capacity, "reset(2,3,#)", 0, 60);
        capacity.calls("count(0) = 2; count(1) = 3; count(2) = 60");
        Said.in(2, "Returns the number of pieces; BAD.").calls("reset(1,1,0) = 12; reset(2,1,0) = 24; reset(3,1,0) = 36;"
                + " reset(4,1,0) = 48; reset(5,1,0) = 60; reset(0,0,-1) = BAD; reset(6,7,61) = BAD; reset(MIN,MIN,MIN) = BAD;"
                + " reset(MAX,MAX,MAX) = BAD; count(0) = 5");
        resetWhenAllIsFull();
    }

    /** Everything that can be full is, and the greatest world becomes the least one and comes back. */
    private static void resetWhenAllIsFull() {
        Run stays = Said.in(2, "The text, the slots and why() stay").text("l0;l0;" + " ".repeat(74));
        stays.calls("run() = 1; why() = STATE; save(1) = 0; reset(1,2,0) = 12; count(9) = 80; type(32) = FULL; fault() = NONE;"
                + " why() = STATE; restore(0) = STATE; restore(1) = 0; count(1) = 1; count(8) = 0");
        Run run = Said.in(2, "everything else is as it is at first").calls("reset(5,6,60); setContent(59,1) = 146;"
                + " setContent(12,2) = 199; storeSubsets(6) = 1; plan(5,59,9); idle(1) = 0; count(6) = 1; 30 * plan(5,59,9);"
                + " 100 * sum(3); 100 * send(0) = 63; 100 * sum(5); leave(5) = 5; leave(0) = 4; want(5,4); want(0,0)");
        run.calls("reset(1,1,0) = 12");
        same(run, new Run("2 the least world").calls("reset(1,1,0)"));
        run.calls("reset(5,6,60) = 60; setContent(59,146) = 146; setContent(12,199) = 199; user(5,2) = 0; user(5,3) = 0;"
                + " user(5,0) = NONE; user(0,0) = NONE; count(3) = 0; count(4) = 0; count(5) = 0; count(6) = 0; count(8) = 63");
        same(run, new Run("2 the greatest world").calls("reset(5,6,60)"));
        // The lists are empty, and have all their room again.
        run.calls("99 * sum(1); sum(1) = 100; sum(1) = FULL; 100 * send(0); 29 * plan(0,0,0); plan(0,0,0) = 30;"
                + " plan(0,0,0) = FULL; user(3,3) = 40");
    }

    private static void same(Run one, Run other) {
        one.due("digest()", one.object.digest(), other.object.digest());
    }

    private static void setContent() {
        Boundary.pieces(3, "setContent(#,7)");
        Run value = Said.in(3, "`value`: the byte, 0 to 255").calls("setContent(0,0) = 11; setContent(0,255) = 0;"
                + " setContent(0,255) = 255; setContent(0,1) = 255; setContent(0,254) = 1; setContent(0,11) = 254");
        Boundary.edges(value, "setContent(0,#)", 0, 255);
        value.calls("setContent(0,3) = 255; sum(1); send(0); decode(0,0) = 3");
        Said.in(3, "STATE if a sum was sent already").calls("reset(1,2,1); sum(1); sum(2); setContent(0,1) = 11;"
                + " send(63) = 0; setContent(0,2) = STATE; setContent(11,2) = STATE; setContent(0,1) = STATE; send(0) = 3;"
                + " setContent(0,2) = STATE; reset(1,2,1) = 12; setContent(0,2) = 11");
        Said.in(3, "a sum was sent already").calls("setContent(3,9) = 122; save(0) = 0; 100 * sum(1); 99 * send(1);"
                + " setContent(3,8) = STATE; send(0); setContent(3,8) = STATE; restore(0) = 0; setContent(3,8) = 9");
    }

    private static void store() {
        Boundary.users(4, "store(#,3)");
        Boundary.pieces(4, "store(1,#)");
        Said.in(4, "STATE if it is there already").calls("reset(5,2,3); store(0,0) = 1; store(0,0) = STATE; store(1,0) = 1;"
                + " store(0,59) = 2; store(0,59) = STATE; drop(0,59) = 1; store(0,59) = 2; plan(0,7,0); idle(1) = 1;"
                + " store(0,7) = STATE; reset(1,1,12); storeSubsets(1) = 1; store(0,11) = STATE; storeSubsets(0) = 1;"
                + " store(0,11) = 1");
        // What is only known is not in the cache.
        Said.in(4, "it is there already").calls("reset(1,1,1); sum(1); send(0); decode(0,0) = 11; store(0,0) = 1");
        Run full = Said.in(4, "FULL if the cache has as many pieces as the capacity").calls("reset(1,1,0); store(0,0) = FULL;"
                + " reset(1,2,1); store(0,0) = 1; store(0,1) = FULL; store(1,1) = 1; drop(0,0) = 0; store(0,1) = 1;"
                + " reset(1,1,11)");
        fill(full, 0, 11);
        full.calls("store(0,11) = FULL; reset(1,1,12)");
        fill(full, 0, 12);
        full.calls("store(0,11) = STATE; reset(5,6,59)");
        fill(full, 5, 59);
        full.calls("store(5,59) = FULL; store(5,58) = STATE; drop(5,0) = 58; store(5,59) = 59; store(5,0) = FULL; reset(5,6,60)");
        fill(full, 5, 60);
        full.calls("user(5,2) = 60; store(5,59) = STATE; store(5,60) = BAD; store(0,59) = 1; reset(1,1,60)");
        fill(full, 0, 12);
        full.calls("store(0,12) = BAD");
    }

    private static void fill(Run run, int user, int pieces) {
        for (int piece = 0; piece < pieces; piece++) {
            run.calls("store(" + user + "," + piece + ") = " + (piece + 1));
        }
    }

    private static void drop() {
        Boundary.users(5, "drop(#,3)");
        Boundary.pieces(5, "drop(1,#)");
        Said.in(5, "STATE if it is not there").calls("drop(0,0) = STATE; reset(5,2,2); drop(0,0) = STATE; drop(0,59) = STATE;"
                + " store(0,0) = 1; store(0,59) = 2; drop(0,1) = STATE; drop(0,58) = STATE; drop(1,0) = STATE; drop(0,59) = 1;"
                + " drop(0,59) = STATE; drop(0,0) = 0; drop(0,0) = STATE; sum(1); send(0); decode(0,0) = 11; drop(0,0) = STATE");
        Run left = Said.in(5, "Returns the number of pieces that are left").calls("reset(5,6,60); storeSubsets(6) = 1");
        for (int piece = 59; piece >= 0; piece--) {
            left.calls("drop(5," + piece + ") = " + piece);
        }
        left.calls("user(5,2) = 0; user(4,2) = 60");
    }

    private static void storeSubsets() {
        int[][] sets = {{1, 1}, {1, 2, 1}, {1, 3, 3, 1}, {1, 4, 6, 4, 1}, {1, 5, 10, 10, 5, 1}, {1, 6, 15, 20, 15, 6, 1}};
        Run run = Said.in(6, "`t`: the size of the sets, 0 to the number of users");
        for (int k = 1; k <= 6; k++) {
            run.calls("reset(5," + k + ",60)");
            for (int t = 0; t <= k; t++) {
                run.calls("storeSubsets(" + t + ") = " + sets[k - 1][t]);
            }
            run.calls("user(" + (k - 1) + ",2) = 60");
            Boundary.refused(run, "storeSubsets(#)", 0, k, "BAD");
        }
        Said.in(6, "in place of what they contain").calls("reset(1,2,12); storeSubsets(2) = 1; user(0,2) = 12;"
                + " storeSubsets(1) = 2; user(0,2) = 6; user(1,2) = 6; cached(0,1) = 0; cached(1,0) = 0; storeSubsets(0) = 1;"
                + " user(0,2) = 0; user(1,2) = 0; storeSubsets(0) = 1; user(0,2) = 0");
        // With five users one by one, the part 5 begins again with the first one, and 10 once more.
        Said.in(6, "S(j modulo C)").calls("reset(2,5,6); storeSubsets(1) = 5; cached(4,4) = 1; cached(4,5) = 0;"
                + " cached(0,5) = 1; cached(4,9) = 1; cached(0,10) = 1; cached(1,11) = 1; cached(0,12) = 1; cached(4,16) = 1;"
                + " cached(0,17) = 1; cached(1,23) = 1; user(0,2) = 6; user(2,2) = 4");
        // Of 15 sets the last one that gets a part is {1,5}; of 20 it is {0,2,5}.
        Said.in(6, "all sets of t users, in ascending order as numbers").calls("reset(1,6,12); storeSubsets(2) = 15;"
                + " cached(0,11) = 0; cached(1,11) = 1; cached(2,11) = 0; cached(3,11) = 0; cached(4,11) = 0; cached(5,11) = 1;"
                + " storeSubsets(3) = 20; cached(0,11) = 1; cached(1,11) = 0; cached(2,11) = 1; cached(3,11) = 0;"
                + " cached(4,11) = 0; cached(5,11) = 1; cached(0,0) = 1; cached(1,0) = 1; cached(2,0) = 1; cached(3,0) = 0");
    }

    /** With each number of files and users: the least capacity that is enough, and one less. */
    private static void fullBySubsets() {
        Run run = Said.in(6, "FULL if a cache would have more pieces than the capacity");
        for (int n = 1; n <= 5; n++) {
            for (int k = 1; k <= 6; k++) {
                for (int t = 1; t <= k; t++) {
                    int most = n * mostParts(k, t);
                    run.calls("reset(" + n + "," + k + "," + (most - 1) + "); plan(0,0,0); idle(1); storeSubsets(" + t
                            + ") = FULL; reset(" + n + "," + k + "," + most + ")");
                    run.taken("storeSubsets(" + t + ")").calls("user(0,2) = " + most);
                }
            }
        }
        run.calls("reset(5,6,0); storeSubsets(0) = 1; storeSubsets(1) = FULL; storeSubsets(6) = FULL");
    }

    /** The first user gets the most parts, as the sets are in ascending order. */
    private static int mostParts(int k, int t) {
        int[] sets = java.util.stream.IntStream.range(0, 1 << k).filter(set -> Integer.bitCount(set) == t).toArray();
        int parts = 0;
        for (int part = 0; part < 12; part++) {
            parts += sets[part % sets.length] & 1;
        }
        return parts;
    }

    private static void storeRandom() {
        Run seed = Said.in(7, "`seed`: the seed, 1 to 2147483646").calls("reset(1,1,1)");
        Boundary.edges(seed, "storeRandom(#)", 1, 2147483646);
        // 1 gives 48271, the part 7; the greatest seed gives 2147435376, the part 0; 2 gives 96542, the part 2.
        seed.calls("storeRandom(1) = 1; cached(0,7) = 1; storeRandom(2147483646) = 1; cached(0,0) = 1; cached(0,7) = 0;"
                + " storeRandom(2) = 1; cached(0,2) = 1; user(0,2) = 1");
        Said.in(7, "rounded down, but at most 12").calls("reset(1,1,11); storeRandom(1) = 11; user(0,2) = 11; reset(1,1,12);"
                + " storeRandom(1) = 12; user(0,2) = 12; reset(1,1,13); storeRandom(1) = 12; user(0,2) = 12; reset(1,1,60);"
                + " storeRandom(1) = 12; user(0,2) = 12; reset(5,6,60); storeRandom(1) = 12; user(5,2) = 60; reset(5,6,59);"
                + " storeRandom(1) = 11; user(5,2) = 55; reset(5,6,5); storeRandom(1) = 1; user(5,2) = 5; reset(5,6,4);"
                + " storeRandom(1) = 0; user(5,2) = 0; reset(5,6,0); storeRandom(1) = 0; user(0,2) = 0; reset(4,1,47);"
                + " storeRandom(1) = 11; reset(4,1,48); storeRandom(1) = 12; reset(4,1,49); storeRandom(1) = 12");
        Said.in(7, "in place of what they contain").calls("reset(5,2,4); store(0,3) = 1; store(1,4) = 1; storeRandom(1) = 0;"
                + " user(0,2) = 0; user(1,2) = 0; reset(1,2,12); storeSubsets(2) = 1; storeRandom(1) = 12; user(1,2) = 12");
        cyclically();
    }

    private static void cyclically() {
        Run run = Said.in(7, "the first one of those that follow it, cyclically, that the user does not have");
        int seed = firstSeedThatDraws(11, 11, 11);
        run.calls("reset(1,1,3); storeRandom(" + seed + ") = 3; cached(0,11) = 1; cached(0,0) = 1; cached(0,1) = 1; user(0,2) = 3");
        seed = firstSeedThatDraws(0, 11, 11);
        run.calls("storeRandom(" + seed + ") = 3; cached(0,0) = 1; cached(0,11) = 1; cached(0,1) = 1; user(0,2) = 3");
        // It stays within the file: part 11 of the file 0 is not followed by part 0 of the file 1.
        seed = firstSeedThatDraws(11, 11, 5);
        run.calls("reset(2,1,4); storeRandom(" + seed + ") = 2; cached(0,11) = 1; cached(0,0) = 1; cached(0,17) = 1;"
                + " cached(0,12) = 0; user(0,2) = 4");
        // Another user does not matter.
        run.calls("reset(1,2,1); storeRandom(" + seed + ") = 1; cached(0,11) = 1; cached(1,11) = 1; cached(1,0) = 0");
    }

    private static int firstSeedThatDraws(int first, int second, int third) {
        for (int seed = 1; seed < 1000000; seed++) {
            long x = seed * 48271L % 2147483647L;
            long y = x * 48271L % 2147483647L;
            long z = y * 48271L % 2147483647L;
            if (x % 12 == first && y % 12 == second && z % 12 == third) {
                return seed;
            }
        }
        throw new IllegalStateException();
    }

    private static void plan() {
        Boundary.users(8, "plan(#,3,4)");
        Boundary.pieces(8, "plan(1,#,4)");
        Run priority = Said.in(8, "`priority`: the priority, 0 to 9");
        Boundary.edges(priority, "plan(0,0,#)", 0, 9);
        priority.calls("count(5) = 2");
        Said.in(8, "FULL if there are 30").calls("reset(5,6,60); 28 * plan(5,59,9); plan(0,0,0) = 29; plan(0,1,0) = 30;"
                + " plan(0,2,0) = FULL; plan(5,59,9) = FULL; count(5) = 30; idle(1) = 1; count(5) = 29; plan(0,2,0) = 30;"
                + " plan(0,3,0) = FULL; idle(50) = 3; count(5) = 0; cached(0,0) = 1; cached(0,2) = 1; cached(0,3) = 0;"
                + " plan(0,3,0) = 1");
        // A plan can be made though it will be in vain, and twice.
        Said.in(8, "Returns the number of plans in the list").calls("plan(0,0,0) = 1; plan(0,0,0) = 2; idle(2) = 0;"
                + " count(6) = 2; reset(1,1,1); store(0,0); plan(0,0,9) = 1; leave(0); plan(0,1,9) = 2; sum(1); plan(0,2,9) = 3");
    }

    private static void idle() {
        Run ticks = Said.in(9, "`ticks`: the number of ticks, 1 to 50").calls("reset(1,1,12); 30 * plan(0,0,0)");
        Boundary.edges(ticks, "idle(#)", 1, 50);
        ticks.calls("count(5) = 0; count(6) = 29");
        Said.in(9, "or until there are no more plans").calls("idle(1) = 0; idle(50) = 0; count(6) = 0; reset(1,1,1);"
                + " 30 * plan(0,0,5); idle(29) = 1; count(5) = 1; count(6) = 28; idle(2) = 0; count(5) = 0; count(6) = 29;"
                + " idle(50) = 0; count(6) = 29; 30 * plan(0,0,5); idle(30) = 0; count(5) = 0; count(6) = 59");
        Said.in(9, "STATE if sums are pending").calls("plan(0,0,0); sum(1); idle(1) = STATE; idle(50) = STATE; sum(2);"
                + " send(0); idle(1) = STATE; send(1) = 0; idle(1) = 0; count(5) = 0; 100 * sum(1); idle(1) = STATE;"
                + " schedule(0) = 0; idle(1) = 0");
    }

    private static void cached() {
        Boundary.users(10, "cached(#,3)");
        Boundary.pieces(10, "cached(1,#)");
        Said.in(10, "Returns 1 if it is, otherwise 0").calls("reset(5,6,60); cached(5,59) = 0; store(5,59) = 1;"
                + " cached(5,59) = 1; cached(5,58) = 0; cached(4,59) = 0; drop(5,59) = 0; cached(5,59) = 0; storeSubsets(6) = 1;"
                + " cached(0,0) = 1; cached(5,59) = 1; cached(0,59) = 1; cached(0,60) = BAD; storeSubsets(0) = 1; cached(0,0) = 0;"
                + " sum(1); send(0); decode(0,0) = 11; cached(0,0) = 0");
    }

    private static void want() {
        Boundary.users(11, "want(#,1)");
        Run file = Said.in(11, "`file`: the file, or NONE");
        for (int n = 1; n <= 5; n++) {
            file.calls("reset(" + n + ",1,0); want(0,NONE) = NONE; want(0," + (n - 1) + ") = NONE; want(0,0) = " + (n - 1)
                    + "; want(0,NONE) = 0");
            Boundary.refused(file, "want(0,#)", -1, n - 1, "BAD");
            file.calls("want(0,BAD) = BAD; user(0,0) = NONE");
        }
        Said.in(11, "Returns the file that it wanted before, or NONE").calls("reset(5,2,0); want(1,4) = NONE; want(1,4) = 4;"
                + " want(1,0) = 4; want(1,0) = 0; want(1,NONE) = 0; want(1,NONE) = NONE; user(0,0) = NONE");
    }

    private static void leave() {
        Boundary.users(12, "leave(#)");
        Said.in(12, "STATE if it is not present").calls("leave(0) = 0; leave(0) = STATE; reset(1,6,0); leave(5) = 5;"
                + " leave(5) = STATE; leave(0) = 4; leave(0) = STATE; join(5) = 5; leave(5) = 4; leave(1) = 3; leave(2) = 2;"
                + " leave(3) = 1; leave(4) = 0; leave(4) = STATE; leave(6) = BAD; count(8) = 0");
        Said.in(12, "it is not present any more, and receives nothing").calls("reset(1,2,0); leave(0) = 1; leave(1) = 0;"
                + " sum(1); send(0) = 0; user(0,3) = 0; user(1,3) = 0; count(4) = 1; user(0,1) = 0; user(1,1) = 0");
        Said.in(12, "Its cache, its list and what it wants stay").calls("reset(5,6,60); storeSubsets(6) = 1; 40 * sum(3);"
                + " 40 * send(0); want(5,4); leave(5) = 5; user(5,0) = 4; user(5,2) = 60; user(5,3) = 40; join(5) = 6;"
                + " user(5,0) = 4; user(5,2) = 60; user(5,3) = 40");
    }

    private static void join() {
        Boundary.users(13, "join(#)");
        Said.in(13, "STATE if it is present").calls("join(0) = STATE; reset(1,6,0); join(0) = STATE; join(5) = STATE;"
                + " leave(5) = 5; join(5) = 6; join(5) = STATE; leave(0); leave(1); leave(2); leave(3); leave(4); leave(5) = 0;"
                + " join(0) = 1; join(0) = STATE; join(5) = 2; count(8) = 33; join(6) = BAD");
        Said.in(13, "it is present again").calls("reset(1,1,0); leave(0) = 0; sum(1); sum(2); send(0) = 0; join(0) = 1;"
                + " send(0) = 1; user(0,3) = 1; decode(0,1) = 48; decode(0,0) = NONE");
    }
}

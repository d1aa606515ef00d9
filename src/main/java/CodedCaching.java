/**
 * A simulator of coded caching: a server fills the caches of its users ahead of time, and then
 * broadcasts sums of pieces of files, each of which serves several users at once.
 *
 * <p>Sets of pieces are longs with bit p for piece p, sets of users are ints with bit u for user u.
 * Every array is made with the object and used again, because a run never gives room back.
 */
public final class CodedCaching {
    public static final int BAD = -101, STATE = -102, FULL = -103;
    public static final int NONE = -1;

    private static final int PARTS = 12;
    private static final long ALL_PARTS = 4095L;
    private static final int MOST_FILES = 5;
    private static final int MOST_USERS = 6;
    private static final int USER_SETS = 64;
    private static final int MOST_PIECES = 60;
    private static final int MOST_CAPACITY = 60;
    private static final int MOST_PLANS = 30;
    private static final int MOST_PRIORITY = 9;
    private static final int MOST_TICKS = 50;
    private static final int MOST_RECEIVED = 40;
    private static final int MOST_SUMS = 100;
    private static final int MOST_LETTERS = 80;
    private static final int SLOTS = 2;
    private static final long RANDOM_FACTOR = 48271L;
    private static final long RANDOM_MODULUS = 2147483647L;

    private final World world = new World();
    /** A slot is null until something is saved in it. */
    private final World[] slots = new World[SLOTS];
    private final Knowledge knowledge = new Knowledge();
    private final Scheduler scheduler = new Scheduler();
    private final BoundFinder boundFinder = new BoundFinder();
    private final Scenario scenario = new Scenario();
    private final int[] subsetOfPart = new int[PARTS];
    private int reason = NONE;

    public CodedCaching() {
        world.begin(1, 1, 0);
    }

    // ---- files, users, caches

    public int reset(int files, int users, int capacity) {
        if (files < 1 || files > MOST_FILES || users < 1 || users > MOST_USERS) {
            return BAD;
        }
        if (capacity < 0 || capacity > MOST_CAPACITY) {
            return BAD;
        }
        world.begin(files, users, capacity);
        return world.pieces();
    }

    public int setContent(int piece, int value) {
        if (!world.hasPiece(piece) || value < 0 || value > 255) {
            return BAD;
        }
        if (world.history.size > 0) {
            return STATE;
        }
        int before = world.content[piece];
        world.content[piece] = value;
        return before;
    }

    public int store(int user, int piece) {
        if (!world.hasUser(user) || !world.hasPiece(piece)) {
            return BAD;
        }
        Member member = world.members[user];
        if (member.holds(piece)) {
            return STATE;
        }
        if (member.held() >= world.capacity) {
            return FULL;
        }
        member.cache |= 1L << piece;
        return member.held();
    }

    public int drop(int user, int piece) {
        if (!world.hasUser(user) || !world.hasPiece(piece)) {
            return BAD;
        }
        Member member = world.members[user];
        if (!member.holds(piece)) {
            return STATE;
        }
        member.cache &= ~(1L << piece);
        return member.held();
    }

    public int storeSubsets(int t) {
        if (t < 0 || t > world.users) {
            return BAD;
        }
        int ways = dealSubsets(t);
        for (int u = 0; u < world.users; u++) {
            if (Long.bitCount(dealtTo(u)) > world.capacity) {
                return FULL;
            }
        }
        for (int u = 0; u < world.users; u++) {
            world.members[u].cache = dealtTo(u);
        }
        return ways;
    }

    /** Finds the set of users for each part, and returns how many sets of this size there are. */
    private int dealSubsets(int size) {
        int found = 0;
        for (int set = 0; set < 1 << world.users; set++) {
            if (Integer.bitCount(set) == size) {
                if (found < PARTS) {
                    subsetOfPart[found] = set;
                }
                found++;
            }
        }
        for (int part = found; part < PARTS; part++) {
            subsetOfPart[part] = subsetOfPart[part - found];
        }
        return found;
    }

    private long dealtTo(int user) {
        long parts = 0;
        for (int part = 0; part < PARTS; part++) {
            if ((subsetOfPart[part] >> user & 1) != 0) {
                parts |= 1L << part;
            }
        }
        long cache = 0;
        for (int file = 0; file < world.files; file++) {
            cache |= parts << (PARTS * file);
        }
        return cache;
    }

    public int storeRandom(int seed) {
        if (seed < 1 || seed >= RANDOM_MODULUS) {
            return BAD;
        }
        int draws = world.partsPerFile();
        long x = seed;
        for (int u = 0; u < world.users; u++) {
            long cache = 0;
            for (int file = 0; file < world.files; file++) {
                for (int draw = 0; draw < draws; draw++) {
                    x = RANDOM_FACTOR * x % RANDOM_MODULUS;
                    cache |= freePiece(cache, file, (int) (x % PARTS));
                }
            }
            world.members[u].cache = cache;
        }
        return draws;
    }

    /** The first piece of the file, from the part on and cyclically, that the cache does not have. */
    private static long freePiece(long cache, int file, int part) {
        for (int step = 0; step < PARTS; step++) {
            long piece = 1L << (PARTS * file + (part + step) % PARTS);
            if ((cache & piece) == 0) {
                return piece;
            }
        }
        return 0;
    }

    public int plan(int user, int piece, int priority) {
        if (!world.hasUser(user) || !world.hasPiece(piece)) {
            return BAD;
        }
        if (priority < 0 || priority > MOST_PRIORITY) {
            return BAD;
        }
        if (world.plans.size >= MOST_PLANS) {
            return FULL;
        }
        world.plans.append(user, piece, priority);
        return world.plans.size;
    }

    public int idle(int ticks) {
        if (ticks < 1 || ticks > MOST_TICKS) {
            return BAD;
        }
        if (world.queue.size > 0) {
            return STATE;
        }
        int stored = 0;
        for (int tick = 0; tick < ticks && world.plans.size > 0; tick++) {
            if (world.carryOutPlan()) {
                stored++;
            }
        }
        return stored;
    }

    public int cached(int user, int piece) {
        if (!world.hasUser(user) || !world.hasPiece(piece)) {
            return BAD;
        }
        return world.members[user].holds(piece) ? 1 : 0;
    }

    public int want(int user, int file) {
        if (!world.hasUser(user) || file < NONE || file >= world.files) {
            return BAD;
        }
        Member member = world.members[user];
        int before = member.wanted;
        member.wanted = file;
        return before;
    }

    public int leave(int user) {
        if (!world.hasUser(user)) {
            return BAD;
        }
        if (!world.isPresent(user)) {
            return STATE;
        }
        world.present &= ~(1 << user);
        return Integer.bitCount(world.present);
    }

    public int join(int user) {
        if (!world.hasUser(user)) {
            return BAD;
        }
        if (world.isPresent(user)) {
            return STATE;
        }
        world.present |= 1 << user;
        return Integer.bitCount(world.present);
    }

    // ---- sums

    public int sum(long pieces) {
        if (pieces == 0 || (pieces & ~world.allPieces()) != 0) {
            return BAD;
        }
        return enqueue(pieces);
    }

    private int enqueue(long pieces) {
        if (world.queue.size >= MOST_SUMS) {
            return FULL;
        }
        world.queue.append(pieces, 0);
        return world.queue.size;
    }

    public int schedule(int method) {
        if (method < 0 || method > 3) {
            return BAD;
        }
        scheduler.replacePending(world, knowledge, method);
        return world.queue.size;
    }

    public int send(int lost) {
        if (lost < 0 || lost >= USER_SETS) {
            return BAD;
        }
        if (world.queue.size < 1) {
            return STATE;
        }
        if (world.history.size >= MOST_SUMS) {
            return FULL;
        }
        return world.broadcast(lost);
    }

    public int resend(int i) {
        if (i < 0 || i >= world.history.size) {
            return BAD;
        }
        return enqueue(world.history.setAt(i));
    }

    public long pending(int i) {
        return world.queue.setAt(i);
    }

    public long sent(int i) {
        return world.history.setAt(i);
    }

    // ---- knowledge

    public int user(int user, int what) {
        if (!world.hasUser(user) || what < 0 || what > 7) {
            return BAD;
        }
        knowledge.learn(world.members[user]);
        return numberAbout(user, what);
    }

    /** Takes it that the knowledge is this user's, so that the digest learns once for all numbers. */
    private int numberAbout(int user, int what) {
        Member member = world.members[user];
        switch (what) {
            case 0: return member.wanted;
            case 1: return world.isPresent(user) ? 1 : 0;
            case 2: return member.held();
            case 3: return member.received.size;
            case 4: return knowledge.rank();
            case 5: return member.held() + member.received.size - knowledge.rank();
            case 6: return Long.bitCount(knowledge.known);
            default: return Long.bitCount(knowledge.missingFor(member));
        }
    }

    public int decode(int user, int piece) {
        if (!world.hasUser(user) || !world.hasPiece(piece)) {
            return BAD;
        }
        Member member = world.members[user];
        knowledge.learn(member);
        if ((knowledge.known >> piece & 1) == 0) {
            return NONE;
        }
        return valueByProof(member, piece, knowledge.sumsBehind(piece));
    }

    private int valueByProof(Member member, int piece, long proven) {
        int value = 0;
        // What the sums of a proof have beyond the piece itself is cancelled by cached pieces.
        long fromCache = 1L << piece;
        for (int i = 0; i < member.received.size; i++) {
            if ((proven >> i & 1) != 0) {
                value ^= member.received.byteAt(i);
                fromCache ^= member.received.setAt(i);
            }
        }
        return value ^ world.contentOf(fromCache);
    }

    public long proof(int user, int piece) {
        if (!world.hasUser(user) || !world.hasPiece(piece)) {
            return -1;
        }
        knowledge.learn(world.members[user]);
        if ((knowledge.known >> piece & 1) == 0) {
            return -1;
        }
        return knowledge.sumsBehind(piece);
    }

    public int need(int user) {
        if (!world.hasUser(user)) {
            return BAD;
        }
        Member member = world.members[user];
        knowledge.learn(member);
        int before = knowledge.rank();
        knowledge.learnFrom(member.cache | piecesOf(member.wanted), member.received);
        return knowledge.rank() - before;
    }

    public int bound() {
        return boundFinder.greatest(world);
    }

    private static long piecesOf(int file) {
        return file < 0 ? 0L : ALL_PARTS << (PARTS * file);
    }

    // ---- rates: numbers of files, as floats

    public int rate() {
        return bitsOf((float) world.history.size / (float) PARTS);
    }

    public int formula(int t) {
        if (t < 0 || t > world.users) {
            return BAD;
        }
        return bitsOf(subsetRate(t));
    }

    private float subsetRate(int t) {
        int k = world.users;
        int spared = k - Math.min(world.files, k);
        return (float) (choose(k, t + 1) - choose(spared, t + 1)) / (float) choose(k, t);
    }

    private static int choose(int from, int taken) {
        int ways = 1;
        for (int i = 1; i <= taken; i++) {
            ways = ways * (from - i + 1) / i;
        }
        return ways;
    }

    public int sharedRate() {
        float k = (float) world.users;
        float x = (float) (world.users * world.capacity) / (float) (PARTS * world.files);
        if (x > k) {
            x = k;
        }
        int t = (int) x;
        float y = x - (float) t;
        float a = subsetRate(t);
        if (y == 0.0f) {
            return bitsOf(a);
        }
        return bitsOf(a + y * (subsetRate(t + 1) - a));
    }

    /**
     * What Float.floatToIntBits answers, which LANGUAGE.md leaves out, for the floats that are rates:
     * 0, or from 1/1000 to 100. To halve or to double such a float is exact.
     */
    private static int bitsOf(float rate) {
        if (rate <= 0.0f) {
            return 0;
        }
        float mantissa = rate;
        int exponent = 127;
        while (mantissa >= 2.0f && exponent < 254) {
            mantissa = mantissa / 2.0f;
            exponent++;
        }
        while (mantissa < 1.0f && exponent > 1) {
            mantissa = mantissa * 2.0f;
            exponent--;
        }
        return (exponent << 23) + (int) ((mantissa - 1.0f) * 8388608.0f);
    }

    // ---- scenarios

    public int type(int letter) {
        if (letter < 0 || letter > 127) {
            return BAD;
        }
        if (scenario.length >= MOST_LETTERS) {
            return FULL;
        }
        scenario.append(letter);
        return scenario.length;
    }

    public int clearText() {
        int before = scenario.length;
        scenario.length = 0;
        return before;
    }

    public int fault() {
        return scenario.firstFault();
    }

    public int run() {
        if (scenario.firstFault() != NONE) {
            return STATE;
        }
        reason = 0;
        scenario.rewind();
        int made = 0;
        while (made < MOST_LETTERS && scenario.readCall()) {
            int answer = makeCall(scenario.verb, scenario.first, scenario.second);
            if (answer == BAD || answer == STATE || answer == FULL) {
                reason = answer;
                return made;
            }
            made++;
        }
        return made;
    }

    private int makeCall(int verb, int first, int second) {
        switch (verb) {
            case 'w': return want(first, second);
            case 'n': return want(first, NONE);
            case 'q': return storeSubsets(first);
            case 'i': return idle(first);
            case 's': return schedule(first);
            case 't': return send(first);
            case 'l': return leave(first);
            default: return join(first);
        }
    }

    public int why() {
        return reason;
    }

    // ---- slots, counts, digest

    public int save(int slot) {
        if (slot < 0 || slot >= SLOTS) {
            return BAD;
        }
        World kept = slots[slot];
        if (kept == null) {
            kept = new World();
            slots[slot] = kept;
        }
        kept.copyFrom(world);
        return world.history.size;
    }

    public int restore(int slot) {
        if (slot < 0 || slot >= SLOTS) {
            return BAD;
        }
        World kept = slots[slot];
        if (kept == null) {
            return STATE;
        }
        world.copyFrom(kept);
        return world.history.size;
    }

    public int count(int what) {
        switch (what) {
            case 0: return world.files;
            case 1: return world.users;
            case 2: return world.capacity;
            case 3: return world.queue.size;
            case 4: return world.history.size;
            case 5: return world.plans.size;
            case 6: return world.inVain;
            case 7: return missingInAll();
            case 8: return world.present;
            case 9: return scenario.length;
            default: return BAD;
        }
    }

    private int missingInAll() {
        int missing = 0;
        for (int u = 0; u < world.users; u++) {
            Member member = world.members[u];
            knowledge.learn(member);
            missing += Long.bitCount(knowledge.missingFor(member));
        }
        return missing;
    }

    public long digest() {
        long h = 19;
        for (int what = 0; what <= 9; what++) {
            h = 31 * h + count(what);
        }
        for (int piece = 0; piece < world.pieces(); piece++) {
            h = 31 * h + world.content[piece];
        }
        for (int u = 0; u < world.users; u++) {
            h = digestUser(h, u);
        }
        h = world.queue.digestInto(h);
        h = world.history.digestInto(h);
        for (int u = 0; u < world.users; u++) {
            h = 31 * h + need(u);
        }
        return 31 * h + bound();
    }

    private long digestUser(long before, int user) {
        long h = before;
        Member member = world.members[user];
        knowledge.learn(member);
        for (int what = 0; what <= 7; what++) {
            h = 31 * h + numberAbout(user, what);
        }
        h = 31 * h + member.cache;
        return member.received.digestInto(h);
    }

    /** Sums in their order, each a set of pieces and a byte; a pending sum's byte is not yet settled. */
    private static final class SumList {
        private final long[] sets;
        private final int[] bytes;
        private final int limit;
        private int size;

        SumList(int limit) {
            this.limit = limit;
            sets = new long[limit];
            bytes = new int[limit];
        }

        long setAt(int i) {
            return i >= 0 && i < size ? sets[i] : 0L;
        }

        int byteAt(int i) {
            return i >= 0 && i < size ? bytes[i] : 0;
        }

        void append(long set, int value) {
            if (size < limit) {
                sets[size] = set;
                bytes[size] = value;
                size++;
            }
        }

        void removeFirst() {
            if (size > 0) {
                size--;
                System.arraycopy(sets, 1, sets, 0, size);
                System.arraycopy(bytes, 1, bytes, 0, size);
            }
        }

        /** Takes it that both lists have the same limit. */
        void copyFrom(SumList other) {
            size = Math.min(other.size, limit);
            System.arraycopy(other.sets, 0, sets, 0, size);
            System.arraycopy(other.bytes, 0, bytes, 0, size);
        }

        long digestInto(long before) {
            long h = before;
            for (int i = 0; i < size; i++) {
                h = 31 * h + sets[i];
            }
            return h;
        }
    }

    /** A user: its cache, what it wants, and the sums that it received. */
    private static final class Member {
        private final SumList received = new SumList(MOST_RECEIVED);
        private long cache;
        private int wanted;

        void begin() {
            received.size = 0;
            cache = 0;
            wanted = NONE;
        }

        boolean holds(int piece) {
            return (cache >> piece & 1) != 0;
        }

        int held() {
            return Long.bitCount(cache);
        }

        void receive(long set, int value) {
            if (received.size >= MOST_RECEIVED) {
                received.removeFirst();
            }
            received.append(set, value);
        }

        void copyFrom(Member other) {
            received.copyFrom(other.received);
            cache = other.cache;
            wanted = other.wanted;
        }
    }

    /** The plans in the order in which they were made. */
    private static final class PlanList {
        private final int[] users = new int[MOST_PLANS];
        private final int[] pieces = new int[MOST_PLANS];
        private final int[] priorities = new int[MOST_PLANS];
        private int size;

        void append(int user, int piece, int priority) {
            if (size < MOST_PLANS) {
                users[size] = user;
                pieces[size] = piece;
                priorities[size] = priority;
                size++;
            }
        }

        int mostUrgent() {
            int best = 0;
            for (int i = 1; i < size; i++) {
                if (priorities[i] > priorities[best]) {
                    best = i;
                }
            }
            return best;
        }

        void remove(int index) {
            if (index >= 0 && index < size) {
                size--;
                System.arraycopy(users, index + 1, users, index, size - index);
                System.arraycopy(pieces, index + 1, pieces, index, size - index);
                System.arraycopy(priorities, index + 1, priorities, index, size - index);
            }
        }

        void copyFrom(PlanList other) {
            size = other.size;
            System.arraycopy(other.users, 0, users, 0, size);
            System.arraycopy(other.pieces, 0, pieces, 0, size);
            System.arraycopy(other.priorities, 0, priorities, 0, size);
        }
    }

    /** Everything that a slot keeps. */
    private static final class World {
        private final int[] content = new int[MOST_PIECES];
        private final Member[] members = new Member[MOST_USERS];
        private final SumList queue = new SumList(MOST_SUMS);
        private final SumList history = new SumList(MOST_SUMS);
        private final PlanList plans = new PlanList();
        private int files;
        private int users;
        private int capacity;
        private int present;
        private int inVain;

        World() {
            for (int u = 0; u < MOST_USERS; u++) {
                members[u] = new Member();
            }
        }

        void begin(int newFiles, int newUsers, int newCapacity) {
            files = newFiles;
            users = newUsers;
            capacity = newCapacity;
            present = (1 << newUsers) - 1;
            inVain = 0;
            for (int piece = 0; piece < MOST_PIECES; piece++) {
                content[piece] = (37 * piece + 11) % 256;
            }
            for (int u = 0; u < MOST_USERS; u++) {
                members[u].begin();
            }
            queue.size = 0;
            history.size = 0;
            plans.size = 0;
        }

        void copyFrom(World other) {
            files = other.files;
            users = other.users;
            capacity = other.capacity;
            present = other.present;
            inVain = other.inVain;
            System.arraycopy(other.content, 0, content, 0, MOST_PIECES);
            for (int u = 0; u < MOST_USERS; u++) {
                members[u].copyFrom(other.members[u]);
            }
            queue.copyFrom(other.queue);
            history.copyFrom(other.history);
            plans.copyFrom(other.plans);
        }

        int pieces() {
            return PARTS * files;
        }

        long allPieces() {
            return (1L << pieces()) - 1;
        }

        /** How many parts of each file fit into a cache if all files share it alike. */
        int partsPerFile() {
            return files < 1 ? 0 : Math.min(PARTS, capacity / files);
        }

        boolean hasUser(int user) {
            return user >= 0 && user < users;
        }

        boolean hasPiece(int piece) {
            return piece >= 0 && piece < pieces();
        }

        boolean isPresent(int user) {
            return (present >> user & 1) != 0;
        }

        int demanding() {
            int set = 0;
            for (int u = 0; u < users; u++) {
                if (members[u].wanted != NONE) {
                    set |= 1 << u;
                }
            }
            return set;
        }

        /** The exclusive or of the contents of a set of pieces. */
        int contentOf(long set) {
            int value = 0;
            for (int piece = 0; piece < pieces(); piece++) {
                if ((set >> piece & 1) != 0) {
                    value ^= content[piece];
                }
            }
            return value;
        }

        /** Takes it that there is a plan; tells whether its piece came into the cache. */
        boolean carryOutPlan() {
            int index = plans.mostUrgent();
            Member member = members[plans.users[index]];
            int piece = plans.pieces[index];
            plans.remove(index);
            if (member.holds(piece) || member.held() >= capacity) {
                inVain++;
                return false;
            }
            member.cache |= 1L << piece;
            return true;
        }

        /** Takes it that a sum is pending and that the history has room; returns who received it. */
        int broadcast(int lost) {
            long set = queue.setAt(0);
            int value = contentOf(set);
            queue.removeFirst();
            history.append(set, value);
            int receivers = present & ~lost;
            for (int u = 0; u < users; u++) {
                if ((receivers >> u & 1) != 0) {
                    members[u].receive(set, value);
                }
            }
            return receivers;
        }
    }

    /**
     * What follows from some given pieces and a list of sums. The rows are those of the sums that are
     * independent, without the given pieces, and reduced: no row has the lead of another one. So a
     * piece that is not given is known just if it is a row by itself.
     */
    private static final class Knowledge {
        private final long[] rows = new long[MOST_RECEIVED];
        private final long[] leads = new long[MOST_RECEIVED];
        /** The independent sums of the list whose exclusive or is the row, but for given pieces. */
        private final long[] origins = new long[MOST_RECEIVED];
        private int size;
        private long given;
        private long known;

        void learn(Member member) {
            learnFrom(member.cache, member.received);
        }

        void learnFrom(long pieces, SumList sums) {
            given = pieces;
            size = 0;
            for (int i = 0; i < sums.size; i++) {
                addRow(sums.setAt(i) & ~pieces, 1L << i);
            }
            known = pieces;
            for (int j = 0; j < size; j++) {
                if (rows[j] == leads[j]) {
                    known |= rows[j];
                }
            }
        }

        private void addRow(long set, long origin) {
            long row = set;
            long behind = origin;
            for (int j = 0; j < size; j++) {
                if ((row & leads[j]) != 0) {
                    row ^= rows[j];
                    behind ^= origins[j];
                }
            }
            if (row == 0 || size >= MOST_RECEIVED) {
                return;
            }
            long lead = row & -row;
            for (int j = 0; j < size; j++) {
                if ((rows[j] & lead) != 0) {
                    rows[j] ^= row;
                    origins[j] ^= behind;
                }
            }
            rows[size] = row;
            leads[size] = lead;
            origins[size] = behind;
            size++;
        }

        int rank() {
            return Long.bitCount(given) + size;
        }

        long missingFor(Member member) {
            return piecesOf(member.wanted) & ~known;
        }

        /** The sums in the proof of a piece that is known. */
        long sumsBehind(int piece) {
            long row = 1L << piece;
            for (int j = 0; j < size; j++) {
                if (rows[j] == row) {
                    return origins[j];
                }
            }
            return 0;
        }
    }

    /** The four methods of a schedule. None makes more than 72 sums: each serves a user's piece. */
    private static final class Scheduler {
        /** For each user the pieces that are missing for it; the greedy method takes the served ones out. */
        private final long[] missing = new long[MOST_USERS];
        /** For each piece the demanding users that have it in their caches. */
        private final int[] owners = new int[MOST_PIECES];
        private final long[] sums = new long[PARTS];
        private int demanding;
        private int leaders;

        void replacePending(World world, Knowledge knowledge, int method) {
            for (int u = 0; u < world.users; u++) {
                Member member = world.members[u];
                knowledge.learn(member);
                missing[u] = knowledge.missingFor(member);
            }
            world.queue.size = 0;
            if (method == 0) {
                addPlain(world);
            } else if (method == 3) {
                addGreedy(world);
            } else {
                findOwners(world);
                findLeaders(world);
                addSubsets(world, method == 2);
            }
        }

        private void addPlain(World world) {
            long wanted = 0;
            for (int u = 0; u < world.users; u++) {
                wanted |= missing[u];
            }
            for (int piece = 0; piece < MOST_PIECES; piece++) {
                if ((wanted >> piece & 1) != 0) {
                    world.queue.append(1L << piece, 0);
                }
            }
        }

        private void findOwners(World world) {
            demanding = world.demanding();
            for (int piece = 0; piece < MOST_PIECES; piece++) {
                owners[piece] = 0;
                for (int u = 0; u < world.users; u++) {
                    if ((demanding >> u & 1) != 0 && world.members[u].holds(piece)) {
                        owners[piece] |= 1 << u;
                    }
                }
            }
        }

        private void findLeaders(World world) {
            leaders = 0;
            long led = 0;
            for (int u = 0; u < world.users; u++) {
                long file = piecesOf(world.members[u].wanted);
                if ((file & ~led) != 0) {
                    leaders |= 1 << u;
                    led |= file;
                }
            }
        }

        private void addSubsets(World world, boolean onlyWithLeader) {
            for (int members = world.users; members > 0; members--) {
                for (int set = 1; set < 1 << world.users; set++) {
                    boolean counts = Integer.bitCount(set) == members && (set & ~demanding) == 0;
                    if (counts && (!onlyWithLeader || (set & leaders) != 0)) {
                        addSumsFor(world, set);
                    }
                }
            }
        }

        private void addSumsFor(World world, int set) {
            for (int i = 0; i < PARTS; i++) {
                sums[i] = 0;
            }
            int longest = 0;
            for (int u = 0; u < world.users; u++) {
                if ((set >> u & 1) != 0) {
                    longest = Math.max(longest, spreadPieces(u, world.members[u].wanted, set & ~(1 << u)));
                }
            }
            for (int i = 0; i < longest; i++) {
                world.queue.append(sums[i], 0);
            }
        }

        /** Puts the pieces for a user into the sums, one into each, and returns how many they are. */
        private int spreadPieces(int user, int file, int others) {
            if (file < 0 || file >= MOST_FILES) {
                return 0;
            }
            int used = 0;
            for (int piece = PARTS * file; piece < PARTS * (file + 1); piece++) {
                if ((missing[user] >> piece & 1) != 0 && owners[piece] == others) {
                    sums[used] |= 1L << piece;
                    used++;
                }
            }
            return used;
        }

        private void addGreedy(World world) {
            for (int u = 0; u < world.users; u++) {
                for (int piece = 0; piece < MOST_PIECES; piece++) {
                    if ((missing[u] >> piece & 1) != 0) {
                        missing[u] &= ~(1L << piece);
                        world.queue.append(growGroup(world, u, 1L << piece), 0);
                    }
                }
            }
        }

        /** Goes through all pairs not yet served: those before the first pair of the group are. */
        private long growGroup(World world, int firstUser, long firstPiece) {
            long sum = firstPiece;
            // The pieces that every user of the group has, or is in the group for.
            long bearable = world.members[firstUser].cache | firstPiece;
            for (int u = firstUser; u < world.users; u++) {
                long cache = world.members[u].cache;
                for (int p = 0; p < MOST_PIECES; p++) {
                    long piece = 1L << p;
                    boolean open = (missing[u] & bearable & piece) != 0;
                    if (open && (sum & ~cache & ~piece) == 0) {
                        sum |= piece;
                        bearable &= cache | piece;
                        missing[u] &= ~piece;
                    }
                }
            }
            return sum;
        }
    }

    /**
     * The bound. What a user adds depends only on the set of the users before it, not on their order,
     * so the best order of each set follows from those of the sets with one user less. The entries
     * of the empty set stay 0.
     */
    private static final class BoundFinder {
        private final int[] best = new int[USER_SETS];
        /** For each set of users the pieces that they have, or that belong to files they want. */
        private final long[] covered = new long[USER_SETS];

        int greatest(World world) {
            int demanding = world.demanding();
            for (int set = 1; set <= demanding && set < USER_SETS; set++) {
                if ((set & ~demanding) == 0) {
                    extend(world, set);
                }
            }
            return best[demanding];
        }

        private void extend(World world, int set) {
            best[set] = 0;
            for (int u = 0; u < world.users; u++) {
                if ((set >> u & 1) != 0) {
                    Member last = world.members[u];
                    int before = set & ~(1 << u);
                    long file = piecesOf(last.wanted);
                    int added = Long.bitCount(file & ~last.cache & ~covered[before]);
                    best[set] = Math.max(best[set], best[before] + added);
                    covered[set] = covered[before] | last.cache | file;
                }
            }
        }
    }

    /** The text, and the reader that goes through its calls. */
    private static final class Scenario {
        private final int[] letters = new int[MOST_LETTERS];
        private int length;
        private int position;
        /** Whether the byte at the position, or the end there, cannot stand there. */
        private boolean stuck;
        private int verb;
        private int first;
        private int second;

        void append(int letter) {
            if (length < MOST_LETTERS) {
                letters[length] = letter;
                length++;
            }
        }

        void rewind() {
            position = 0;
            stuck = false;
        }

        int firstFault() {
            rewind();
            int calls = 0;
            while (calls < MOST_LETTERS && readCall()) {
                calls++;
            }
            return stuck ? position : NONE;
        }

        /** Reads the next call; false at the end of the text and at a fault. */
        boolean readCall() {
            skipBlanks();
            if (position >= length) {
                return false;
            }
            verb = letterHere();
            switch (verb) {
                case 'w':
                    position++;
                    first = readDigit();
                    second = readDigit();
                    break;
                case 'n': case 's': case 'l': case 'j':
                    position++;
                    first = readDigit();
                    break;
                case 'q': case 'i': case 't':
                    position++;
                    first = readNumber();
                    break;
                default:
                    stuck = true;
            }
            readSemicolon();
            return !stuck;
        }

        private void skipBlanks() {
            while (position < length && letterHere() == ' ') {
                position++;
            }
        }

        /** The byte at the position, or NONE behind the last one. */
        private int letterHere() {
            return position >= 0 && position < length ? letters[position] : NONE;
        }

        private boolean isDigitHere() {
            return letterHere() >= '0' && letterHere() <= '9';
        }

        private int readDigit() {
            if (stuck) {
                return 0;
            }
            skipBlanks();
            if (!isDigitHere()) {
                stuck = true;
                return 0;
            }
            int digit = letterHere() - '0';
            position++;
            return digit;
        }

        private int readNumber() {
            int number = readDigit();
            if (!stuck && isDigitHere()) {
                number = 10 * number + readDigit();
            }
            return number;
        }

        private void readSemicolon() {
            if (stuck) {
                return;
            }
            skipBlanks();
            if (letterHere() == ';') {
                position++;
            } else {
                stuck = true;
            }
        }
    }
}

import java.util.ArrayList;
import java.util.Collections;
import java.util.List;
import java.util.TreeSet;
import java.util.regex.Matcher;
import java.util.regex.Pattern;

/**
 * The document once more, written as literally as it can be and with other means than the class:
 * sets and lists of the library, all orders gone through, rank by trial. It is slow, and it is what
 * the answers of the class are compared with in random runs.
 */
final class Model {
    static final int BAD = -101, STATE = -102, FULL = -103, NONE = -1;

    record Sum(long pieces, int value) { }

    record Plan(int user, int piece, int priority) { }

    record Pair(int user, int piece) { }

    static final class User {
        TreeSet<Integer> cache = new TreeSet<>();
        int wants = NONE;
        boolean present = true;
        List<Sum> list = new ArrayList<>();
    }

    static final class Server {
        int n = 1, k = 1, c = 0, vain = 0;
        List<Integer> content = new ArrayList<>();
        List<User> users = new ArrayList<>();
        List<Long> pending = new ArrayList<>();
        List<Long> history = new ArrayList<>();
        List<Plan> plans = new ArrayList<>();

        Server(int n, int k, int c) {
            this.n = n;
            this.k = k;
            this.c = c;
            for (int p = 0; p < 12 * n; p++) {
                content.add((37 * p + 11) % 256);
            }
            for (int u = 0; u < k; u++) {
                users.add(new User());
            }
        }

        Server copy() {
            Server other = new Server(n, k, c);
            other.vain = vain;
            other.content = new ArrayList<>(content);
            for (int u = 0; u < k; u++) {
                User from = users.get(u), to = other.users.get(u);
                to.cache = new TreeSet<>(from.cache);
                to.wants = from.wants;
                to.present = from.present;
                to.list = new ArrayList<>(from.list);
            }
            other.pending = new ArrayList<>(pending);
            other.history = new ArrayList<>(history);
            other.plans = new ArrayList<>(plans);
            return other;
        }
    }

    private static final Pattern CALL =
            Pattern.compile(" *(?:(w) *(\\d) *(\\d)|([nslj]) *(\\d)|([qit]) *(\\d\\d?)) *;");
    private static final Pattern SCENARIO = Pattern.compile("(?:" + CALL.pattern() + ")* *");

    private Server s = new Server(1, 1, 0);
    private final Server[] slots = new Server[2];
    private String text = "";
    private int why = NONE;

    private boolean noUser(int u) {
        return u < 0 || u >= s.k;
    }

    private boolean noPiece(int p) {
        return p < 0 || p >= 12 * s.n;
    }

    int reset(int files, int users, int capacity) {
        if (files < 1 || files > 5 || users < 1 || users > 6 || capacity < 0 || capacity > 60) return BAD;
        s = new Server(files, users, capacity);
        return 12 * files;
    }

    int setContent(int piece, int value) {
        if (noPiece(piece) || value < 0 || value > 255) return BAD;
        if (!s.history.isEmpty()) return STATE;
        return s.content.set(piece, value);
    }

    int store(int user, int piece) {
        if (noUser(user) || noPiece(piece)) return BAD;
        TreeSet<Integer> cache = s.users.get(user).cache;
        if (cache.contains(piece)) return STATE;
        if (cache.size() == s.c) return FULL;
        cache.add(piece);
        return cache.size();
    }

    int drop(int user, int piece) {
        if (noUser(user) || noPiece(piece)) return BAD;
        TreeSet<Integer> cache = s.users.get(user).cache;
        return cache.remove(piece) ? cache.size() : STATE;
    }

    int storeSubsets(int t) {
        if (t < 0 || t > s.k) return BAD;
        List<Integer> sets = new ArrayList<>();
        for (int set = 0; set < 1 << s.k; set++) {
            if (Integer.bitCount(set) == t) sets.add(set);
        }
        List<TreeSet<Integer>> caches = new ArrayList<>();
        for (int u = 0; u < s.k; u++) {
            TreeSet<Integer> cache = new TreeSet<>();
            for (int p = 0; p < 12 * s.n; p++) {
                if ((sets.get(p % 12 % sets.size()) & 1 << u) != 0) cache.add(p);
            }
            if (cache.size() > s.c) return FULL;
            caches.add(cache);
        }
        for (int u = 0; u < s.k; u++) s.users.get(u).cache = caches.get(u);
        return sets.size();
    }

    int storeRandom(int seed) {
        if (seed < 1 || seed > 2147483646) return BAD;
        int q = Math.min(12, s.c / s.n);
        long x = seed;
        for (User user : s.users) {
            user.cache.clear();
            for (int f = 0; f < s.n; f++) {
                for (int i = 0; i < q; i++) {
                    x = 48271 * x % 2147483647;
                    int part = (int) (x % 12);
                    while (user.cache.contains(12 * f + part)) part = (part + 1) % 12;
                    user.cache.add(12 * f + part);
                }
            }
        }
        return q;
    }

    int plan(int user, int piece, int priority) {
        if (noUser(user) || noPiece(piece) || priority < 0 || priority > 9) return BAD;
        if (s.plans.size() == 30) return FULL;
        s.plans.add(new Plan(user, piece, priority));
        return s.plans.size();
    }

    int idle(int ticks) {
        if (ticks < 1 || ticks > 50) return BAD;
        if (!s.pending.isEmpty()) return STATE;
        int came = 0;
        for (int i = 0; i < ticks && !s.plans.isEmpty(); i++) {
            Plan next = Collections.max(s.plans, (a, b) -> {
                int byPriority = Integer.compare(a.priority, b.priority);
                return byPriority != 0 ? byPriority : Integer.compare(place(b), place(a));
            });
            s.plans.remove(place(next));
            TreeSet<Integer> cache = s.users.get(next.user).cache;
            if (!cache.contains(next.piece) && cache.size() < s.c) {
                cache.add(next.piece);
                came++;
            } else {
                s.vain++;
            }
        }
        return came;
    }

    private int place(Plan plan) {
        for (int i = 0; i < s.plans.size(); i++) {
            if (s.plans.get(i) == plan) return i;
        }
        throw new IllegalStateException();
    }

    int cached(int user, int piece) {
        if (noUser(user) || noPiece(piece)) return BAD;
        return s.users.get(user).cache.contains(piece) ? 1 : 0;
    }

    int want(int user, int file) {
        if (noUser(user) || file < -1 || file >= s.n) return BAD;
        int before = s.users.get(user).wants;
        s.users.get(user).wants = file;
        return before;
    }

    int leave(int user) {
        return move(user, false);
    }

    int join(int user) {
        return move(user, true);
    }

    private int move(int user, boolean present) {
        if (noUser(user)) return BAD;
        if (s.users.get(user).present == present) return STATE;
        s.users.get(user).present = present;
        return (int) s.users.stream().filter(u -> u.present).count();
    }

    int sum(long pieces) {
        if (pieces == 0) return BAD;
        for (int p = 0; p < 64; p++) {
            if ((pieces & 1L << p) != 0 && noPiece(p)) return BAD;
        }
        if (s.pending.size() == 100) return FULL;
        s.pending.add(pieces);
        return s.pending.size();
    }

    int send(int lost) {
        if (lost < 0 || lost > 63) return BAD;
        if (s.pending.isEmpty()) return STATE;
        if (s.history.size() == 100) return FULL;
        long pieces = s.pending.remove(0);
        s.history.add(pieces);
        int value = 0;
        for (int p = 0; p < 12 * s.n; p++) {
            if ((pieces & 1L << p) != 0) value ^= s.content.get(p);
        }
        int received = 0;
        for (int u = 0; u < s.k; u++) {
            User user = s.users.get(u);
            if (user.present && (lost & 1 << u) == 0) {
                if (user.list.size() == 40) user.list.remove(0);
                user.list.add(new Sum(pieces, value));
                received += 1 << u;
            }
        }
        return received;
    }

    int resend(int i) {
        if (i < 0 || i >= s.history.size()) return BAD;
        return sum(s.history.get(i));
    }

    long pending(int i) {
        return i < 0 || i >= s.pending.size() ? 0 : s.pending.get(i);
    }

    long sent(int i) {
        return i < 0 || i >= s.history.size() ? 0 : s.history.get(i);
    }

    // ---- rows

    private static int rank(List<Long> rows) {
        List<Long> left = new ArrayList<>(rows);
        int rank = 0;
        for (int bit = 59; bit >= 0; bit--) {
            long mask = 1L << bit;
            int at = -1;
            for (int i = 0; i < left.size() && at < 0; i++) {
                if ((left.get(i) & mask) != 0) at = i;
            }
            if (at >= 0) {
                long row = left.remove(at);
                left.replaceAll(other -> (other & mask) != 0 ? other ^ row : other);
                rank++;
            }
        }
        return rank;
    }

    private static boolean spans(List<Long> rows, long row) {
        List<Long> more = new ArrayList<>(rows);
        more.add(row);
        return rank(more) == rank(rows);
    }

    private static List<Long> rows(User user) {
        List<Long> rows = new ArrayList<>();
        for (int p : user.cache) rows.add(1L << p);
        for (Sum sum : user.list) rows.add(sum.pieces);
        return rows;
    }

    private boolean knows(User user, int piece) {
        return spans(rows(user), 1L << piece);
    }

    private List<Integer> missing(User user) {
        List<Integer> missing = new ArrayList<>();
        if (user.wants != NONE) {
            for (int p = 12 * user.wants; p < 12 * user.wants + 12; p++) {
                if (!knows(user, p)) missing.add(p);
            }
        }
        return missing;
    }

    /** The indices of the rows of the proof: those independent ones that it cannot do without. */
    private List<Integer> proofRows(User user, int piece) {
        List<Long> rows = rows(user), independent = new ArrayList<>();
        List<Integer> indices = new ArrayList<>();
        for (int i = 0; i < rows.size(); i++) {
            if (!spans(independent, rows.get(i))) {
                independent.add(rows.get(i));
                indices.add(i);
            }
        }
        List<Integer> proof = new ArrayList<>();
        for (int i = 0; i < independent.size(); i++) {
            List<Long> others = new ArrayList<>(independent);
            others.remove(i);
            if (!spans(others, 1L << piece)) proof.add(indices.get(i));
        }
        return proof;
    }

    int user(int u, int what) {
        if (noUser(u) || what < 0 || what > 7) return BAD;
        User user = s.users.get(u);
        List<Long> rows = rows(user);
        switch (what) {
            case 0: return user.wants;
            case 1: return user.present ? 1 : 0;
            case 2: return user.cache.size();
            case 3: return user.list.size();
            case 4: return rank(rows);
            case 5:
                int dependent = 0;
                for (int i = 0; i < rows.size(); i++) {
                    if (spans(rows.subList(0, i), rows.get(i))) dependent++;
                }
                return dependent;
            case 6:
                int known = 0;
                for (int p = 0; p < 12 * s.n; p++) {
                    if (knows(user, p)) known++;
                }
                return known;
            default: return missing(user).size();
        }
    }

    int decode(int u, int piece) {
        if (noUser(u) || noPiece(piece)) return BAD;
        User user = s.users.get(u);
        if (!knows(user, piece)) return NONE;
        List<Integer> cache = new ArrayList<>(user.cache);
        int value = 0;
        for (int i : proofRows(user, piece)) {
            value ^= i < cache.size() ? s.content.get(cache.get(i)) : user.list.get(i - cache.size()).value;
        }
        return value;
    }

    long proof(int u, int piece) {
        if (noUser(u) || noPiece(piece) || !knows(s.users.get(u), piece)) return -1;
        long set = 0;
        int cache = s.users.get(u).cache.size();
        for (int i : proofRows(s.users.get(u), piece)) {
            if (i >= cache) set |= 1L << (i - cache);
        }
        return set;
    }

    int need(int u) {
        if (noUser(u)) return BAD;
        User user = s.users.get(u);
        if (user.wants == NONE) return 0;
        List<Long> rows = rows(user);
        int before = rank(rows);
        for (int p = 12 * user.wants; p < 12 * user.wants + 12; p++) rows.add(1L << p);
        return rank(rows) - before;
    }

    int bound() {
        List<User> left = new ArrayList<>(s.users);
        left.removeIf(user -> user.wants == NONE);
        return bound(new ArrayList<>(), left);
    }

    private int bound(List<User> before, List<User> left) {
        int best = 0;
        for (User next : left) {
            int counted = 0;
            for (int p = 12 * next.wants; p < 12 * next.wants + 12; p++) {
                int piece = p;
                boolean out = next.cache.contains(p)
                        || before.stream().anyMatch(u -> u.cache.contains(piece) || u.wants == piece / 12);
                if (!out) counted++;
            }
            List<User> more = new ArrayList<>(before), rest = new ArrayList<>(left);
            more.add(next);
            rest.remove(next);
            best = Math.max(best, counted + bound(more, rest));
        }
        return best;
    }

    // ---- schedules

    int schedule(int method) {
        if (method < 0 || method > 3) return BAD;
        List<List<Integer>> missing = new ArrayList<>();
        for (User user : s.users) missing.add(missing(user));
        s.pending = switch (method) {
            case 0 -> plain(missing);
            case 3 -> greedy(missing);
            default -> subsets(missing, method == 2);
        };
        return s.pending.size();
    }

    private List<Long> plain(List<List<Integer>> missing) {
        TreeSet<Integer> all = new TreeSet<>();
        missing.forEach(all::addAll);
        List<Long> sums = new ArrayList<>();
        for (int p : all) sums.add(1L << p);
        return sums;
    }

    private boolean demands(int u) {
        return s.users.get(u).wants != NONE;
    }

    private boolean hasLeader(int set) {
        for (int f = 0; f < s.n; f++) {
            int leader = -1;
            for (int u = s.k - 1; u >= 0; u--) {
                if (s.users.get(u).wants == f) leader = u;
            }
            if (leader >= 0 && (set & 1 << leader) != 0) return true;
        }
        return false;
    }

    private List<Long> subsets(List<List<Integer>> missing, boolean leaders) {
        List<Integer> sets = new ArrayList<>();
        for (int set = 1; set < 1 << s.k; set++) {
            boolean all = true;
            for (int u = 0; u < s.k; u++) all &= (set & 1 << u) == 0 || demands(u);
            if (all && (!leaders || hasLeader(set))) sets.add(set);
        }
        sets.sort((a, b) -> Integer.compare(Integer.bitCount(b), Integer.bitCount(a)));
        List<Long> sums = new ArrayList<>();
        for (int set : sets) {
            List<List<Integer>> lists = new ArrayList<>();
            int m = 0;
            for (int u = 0; u < s.k; u++) {
                if ((set & 1 << u) != 0) {
                    List<Integer> list = new ArrayList<>();
                    for (int p : missing.get(u)) {
                        if (hadByJust(p, set - (1 << u))) list.add(p);
                    }
                    lists.add(list);
                    m = Math.max(m, list.size());
                }
            }
            for (int i = 0; i < m; i++) {
                long sum = 0;
                for (List<Integer> list : lists) {
                    if (i < list.size()) sum |= 1L << list.get(i);
                }
                sums.add(sum);
            }
        }
        return sums;
    }

    private boolean hadByJust(int piece, int set) {
        for (int v = 0; v < s.k; v++) {
            if (demands(v) && s.users.get(v).cache.contains(piece) != ((set & 1 << v) != 0)) return false;
        }
        return true;
    }

    private List<Long> greedy(List<List<Integer>> missing) {
        List<Pair> pairs = new ArrayList<>();
        for (int u = 0; u < s.k; u++) {
            for (int p : missing.get(u)) pairs.add(new Pair(u, p));
        }
        boolean[] served = new boolean[pairs.size()];
        List<Long> sums = new ArrayList<>();
        for (int i = 0; i < pairs.size(); i++) {
            if (served[i]) continue;
            List<Pair> group = new ArrayList<>(List.of(pairs.get(i)));
            TreeSet<Integer> sum = new TreeSet<>(List.of(pairs.get(i).piece));
            served[i] = true;
            for (int j = i + 1; j < pairs.size(); j++) {
                if (!served[j] && joins(pairs.get(j), group, sum)) {
                    group.add(pairs.get(j));
                    sum.add(pairs.get(j).piece);
                    served[j] = true;
                }
            }
            long set = 0;
            for (int p : sum) set |= 1L << p;
            sums.add(set);
        }
        return sums;
    }

    private boolean joins(Pair pair, List<Pair> group, TreeSet<Integer> sum) {
        for (int p : sum) {
            if (p != pair.piece && !s.users.get(pair.user).cache.contains(p)) return false;
        }
        for (Pair other : group) {
            if (other.piece != pair.piece && !s.users.get(other.user).cache.contains(pair.piece)) return false;
        }
        return true;
    }

    // ---- rates

    int rate() {
        return Float.floatToIntBits((float) s.history.size() / 12f);
    }

    private static int c(int a, int b) {
        int sets = 0;
        for (int set = 0; set < 1 << a; set++) {
            if (Integer.bitCount(set) == b) sets++;
        }
        return sets;
    }

    int formula(int t) {
        if (t < 0 || t > s.k) return BAD;
        return Float.floatToIntBits((float) (c(s.k, t + 1) - c(s.k - Math.min(s.n, s.k), t + 1)) / (float) c(s.k, t));
    }

    int sharedRate() {
        float x = Math.min((float) (s.k * s.c) / (float) (12 * s.n), (float) s.k);
        int t = (int) Math.floor(x);
        float y = x - (float) t;
        float a = Float.intBitsToFloat(formula(t));
        if (y == 0) return Float.floatToIntBits(a);
        float b = Float.intBitsToFloat(formula(t + 1));
        return Float.floatToIntBits(a + y * (b - a));
    }

    // ---- scenarios

    int type(int letter) {
        if (letter < 0 || letter > 127) return BAD;
        if (text.length() == 80) return FULL;
        text += (char) letter;
        return text.length();
    }

    int clearText() {
        int length = text.length();
        text = "";
        return length;
    }

    int fault() {
        for (int length = 1; length <= text.length(); length++) {
            Matcher matcher = SCENARIO.matcher(text.substring(0, length));
            if (!matcher.matches() && !matcher.hitEnd()) return length - 1;
        }
        return SCENARIO.matcher(text).matches() ? NONE : text.length();
    }

    int run() {
        if (fault() != NONE) return STATE;
        why = 0;
        int made = 0;
        Matcher calls = CALL.matcher(text);
        while (calls.find()) {
            int answer = make(calls);
            if (answer <= BAD) {
                why = answer;
                return made;
            }
            made++;
        }
        return made;
    }

    private int make(Matcher call) {
        if (call.group(1) != null) return want(Integer.parseInt(call.group(2)), Integer.parseInt(call.group(3)));
        boolean single = call.group(4) != null;
        int number = Integer.parseInt(call.group(single ? 5 : 7));
        return switch (call.group(single ? 4 : 6)) {
            case "n" -> want(number, NONE);
            case "q" -> storeSubsets(number);
            case "i" -> idle(number);
            case "s" -> schedule(number);
            case "t" -> send(number);
            case "l" -> leave(number);
            case "j" -> join(number);
            default -> throw new IllegalStateException();
        };
    }

    int why() {
        return why;
    }

    // ---- slots, counts, digest

    int save(int slot) {
        if (slot < 0 || slot > 1) return BAD;
        slots[slot] = s.copy();
        return s.history.size();
    }

    int restore(int slot) {
        if (slot < 0 || slot > 1) return BAD;
        if (slots[slot] == null) return STATE;
        s = slots[slot].copy();
        return s.history.size();
    }

    int count(int what) {
        switch (what) {
            case 0: return s.n;
            case 1: return s.k;
            case 2: return s.c;
            case 3: return s.pending.size();
            case 4: return s.history.size();
            case 5: return s.plans.size();
            case 6: return s.vain;
            case 7: return s.users.stream().mapToInt(user -> missing(user).size()).sum();
            case 8:
                int set = 0;
                for (int u = 0; u < s.k; u++) set += s.users.get(u).present ? 1 << u : 0;
                return set;
            case 9: return text.length();
            default: return BAD;
        }
    }

    long digest() {
        List<Long> numbers = new ArrayList<>();
        for (int what = 0; what <= 9; what++) numbers.add((long) count(what));
        for (int byt : s.content) numbers.add((long) byt);
        for (int u = 0; u < s.k; u++) {
            for (int what = 0; what <= 7; what++) numbers.add((long) user(u, what));
            long cache = 0;
            for (int p : s.users.get(u).cache) cache |= 1L << p;
            numbers.add(cache);
            for (Sum sum : s.users.get(u).list) numbers.add(sum.pieces);
        }
        numbers.addAll(s.pending);
        numbers.addAll(s.history);
        for (int u = 0; u < s.k; u++) numbers.add((long) need(u));
        numbers.add((long) bound());
        long h = 19;
        for (long v : numbers) h = 31 * h + v;
        return h;
    }
}

import java.util.ArrayList;
import java.util.Arrays;
import java.util.List;

/** A plain model of the whole document, that tries everything; texts are read by Reading. */
final class Model {
    static final class State {
        int[] lengths = {}, declared = {};
        int paid, waste;
        long seed;

        State copy() {
            State copy = new State();
            copy.lengths = lengths.clone();
            copy.declared = declared.clone();
            copy.paid = paid;
            copy.waste = waste;
            copy.seed = seed;
            return copy;
        }
    }

    final StringBuilder text = new StringBuilder();
    int fault = Due.NONE;
    boolean open;
    int dues;
    int[] yards = {};
    int[][] tables = {}, pieces = {}, wants = {};
    State now = new State();
    List<State> undoable = new ArrayList<>();
    State[] images = new State[2];
    List<int[]> lefts = new ArrayList<>(), book = new ArrayList<>();

    int feed(int letter) {
        if (letter < 0 || letter > 255) return Due.OUTSIDE;
        if (text.length() == 240) return Due.FULL;
        text.append((char) letter);
        return text.length();
    }

    int shop() {
        Reading reading = new Reading(text.toString());
        text.setLength(0);
        fault = reading.place;
        if (reading.fault != 0) return -10 - reading.fault;
        open = reading.open;
        dues = reading.dues;
        yards = Arrays.stream(reading.clauses('u')).mapToInt(use -> use[0]).toArray();
        tables = reading.clauses('t');
        pieces = reading.clauses('p');
        wants = reading.clauses('n');
        begin();
        return yards.length;
    }

    private void begin() {
        long seed = now.seed;
        now = new State();
        now.seed = seed;
        now.declared = Arrays.stream(pieces).mapToInt(piece -> piece[0]).toArray();
        now.lengths = Arrays.stream(pieces).mapToInt(piece -> piece[1] * yards[piece[0]]).toArray();
        undoable.clear();
        Arrays.fill(images, null);
        lefts.clear();
        book.clear();
    }

    int told(int what) {
        int all = 0;
        for (int length : now.lengths) all += length;
        int[] told = {dues, yards.length, tables.length, pieces.length, wants.length, text.length(), now.paid, now.waste, all,
            lefts.size(), book.size(), undoable.size(), open ? 1 : 0};
        return what < 0 || what > 12 ? Due.OUTSIDE : told[what];
    }

    int yard(int u) {
        return u < 0 || u >= yards.length ? Due.UNKNOWN : yards[u];
    }

    int table(int t, int what) {
        if (t < 0 || t >= tables.length) return Due.UNKNOWN;
        return what < 0 || what > 3 ? Due.OUTSIDE : tables[t][what];
    }

    int piece(int p, int what) {
        if (p < 0 || p >= pieces.length) return Due.UNKNOWN;
        if (what < 0 || what > 2) return Due.OUTSIDE;
        return what == 0 ? now.lengths[p] : what == 1 ? now.declared[p] : now.lengths[p] / yards[now.declared[p]];
    }

    int wanted(int n, int what) {
        if (n < 0 || n >= wants.length) return Due.UNKNOWN;
        return what < 0 || what > 1 ? Due.OUTSIDE : wants[n][what];
    }

    void remember() {
        undoable.add(now.copy());
        if (undoable.size() > 20) undoable.remove(0);
    }

    int cut(int p, int u, int n) {
        if (p < 0 || p >= pieces.length || u < 0 || u >= yards.length) return Due.UNKNOWN;
        if (n < 1 || n > 40) return Due.OUTSIDE;
        if (now.lengths[p] < n * yards[u]) return Due.NOT;
        remember();
        return now.lengths[p] -= n * yards[u];
    }

    int turn(int p, int t) {
        if (p < 0 || p >= pieces.length || t < 0 || t >= tables.length) return Due.UNKNOWN;
        if (now.declared[p] != tables[t][0]) return Due.NOT;
        remember();
        turned(p, t);
        return now.lengths[p];
    }

    void turned(int p, int t) {
        int had = now.lengths[p];
        int ofA = had / yards[tables[t][0]];
        int ofB = ofA * tables[t][3] / tables[t][2];
        int taken = ofB * dues / 100;
        now.lengths[p] = Math.min(9999, (ofB - taken) * yards[tables[t][1]]);
        now.declared[p] = tables[t][1];
        if (now.lengths[p] < had) now.waste = Math.min(999999, now.waste + had - now.lengths[p]);
    }

    int change(int p, int u) {
        if (p < 0 || p >= pieces.length || u < 0 || u >= yards.length) return Due.UNKNOWN;
        int was = now.declared[p];
        if (was == u) return Due.NOT;
        remember();
        now.declared[p] = u;
        if (yards[u] < yards[was]) {
            now.paid = Math.min(999999, now.paid + (now.lengths[p] / yards[u] - now.lengths[p] / yards[was]) * dues);
        }
        return now.paid;
    }

    int draw(int n) {
        now.seed = (now.seed * 1103515245L + 12345L) % 2147483648L;
        return (int) (now.seed / 65536 % n);
    }

    int drift(int n) {
        if (n < 1 || n > 40) return Due.OUTSIDE;
        if (!open) return Due.NOT;
        if (now.waste > 90000) return Due.FULL;
        remember();
        for (int day = 0; day < n; day++) {
            if (pieces.length == 0 || tables.length == 0) continue;
            int p = draw(pieces.length);
            int t = draw(tables.length);
            if (now.declared[p] == tables[t][0]) turned(p, t);
        }
        return now.waste;
    }

    int undo() {
        if (undoable.isEmpty()) return Due.NOT;
        long seed = now.seed;
        now = undoable.remove(undoable.size() - 1);
        now.seed = seed;
        return undoable.size();
    }

    /** By heights in powers of the primes up to 19, spread until nothing changes. */
    boolean agree(int set) {
        int[][] heights = new int[yards.length][];
        for (int u = 0; u < yards.length; u++) {
            if (heights[u] != null) continue;
            heights[u] = new int[20];
            for (int round = 0; round < 8; round++) {
                for (int t = 0; t < tables.length; t++) {
                    if ((set >> t & 1) == 0) continue;
                    int a = tables[t][0], b = tables[t][1];
                    if (heights[a] != null && heights[b] == null) heights[b] = moved(heights[a], tables[t][2], tables[t][3]);
                    if (heights[b] != null && heights[a] == null) heights[a] = moved(heights[b], tables[t][3], tables[t][2]);
                }
            }
        }
        for (int t = 0; t < tables.length; t++) {
            if ((set >> t & 1) == 0) continue;
            int[] due = moved(heights[tables[t][0]], tables[t][2], tables[t][3]);
            if (!Arrays.equals(due, heights[tables[t][1]])) return false;
        }
        return true;
    }

    static int[] moved(int[] height, int times, int by) {
        int[] moved = height.clone();
        for (int prime = 2; prime < 20; prime++) {
            while (times % prime == 0) { times /= prime; moved[prime]++; }
            while (by % prime == 0) { by /= prime; moved[prime]--; }
        }
        return moved;
    }

    int clash() {
        int ahead = 0;
        for (int t = 0; t < tables.length; t++) {
            if (!agree(ahead | 1 << t)) return t;
            ahead |= 1 << t;
        }
        return -1;
    }

    int slips() {
        if (agree(-1)) return 0;
        int set = 0;
        for (int t = 0; t < tables.length; t++) set |= agree(~(1 << t)) ? 1 << t : 0;
        return set;
    }

    /** The best of all rows of that many TABLES from a to b, {yards, tables ..}; null: none. */
    int[] best(int a, int b, int n, int turns, int tax) {
        int[] best = null;
        int rows = 1;
        for (int i = 0; i < turns; i++) rows *= tables.length;
        for (int row = 0; row < rows; row++) {
            int[] way = new int[turns + 1];
            int rest = row;
            for (int i = turns; i > 0; i--) { way[i] = rest % tables.length; rest /= tables.length; }
            int use = a, have = n;
            for (int i = 1; i <= turns && use >= 0; i++) {
                int[] table = tables[way[i]];
                if (table[0] != use) { use = -1; break; }
                use = table[1];
                have = have * table[3] / table[2];
                have -= have * tax / 100;
            }
            way[0] = have;
            if (use == b && (best == null || have > best[0])) best = way;
        }
        return best;
    }

    int most(int a, int b, int n, int i) {
        if (a < 0 || a >= yards.length || b < 0 || b >= yards.length) return Due.UNKNOWN;
        if (n < 1 || n > 99) return Due.OUTSIDE;
        int[] best = null;
        for (int turns = 0; turns <= 4; turns++) {
            int[] way = best(a, b, n, turns, 0);
            if (way != null && (best == null || way[0] > best[0])) best = way;
        }
        if (best == null) return -1;
        if (i == -1) return best[0];
        if (i == -2) return best.length - 1;
        return i < 0 || i >= best.length - 1 ? -1 : best[i + 1];
    }

    int round(int u, int tax) {
        int most = 0;
        for (int turns = 1; turns <= 4; turns++) {
            int[] way = best(u, u, 20, turns, tax);
            if (way != null) most = Math.max(most, way[0]);
        }
        return most;
    }

    int gain(int what) {
        if (what < 0 || what > 1) return Due.OUTSIDE;
        int use = -1, most = -1;
        for (int u = yards.length - 1; u >= 0; u--) {
            int round = round(u, 0);
            if (round > 20 && round >= most) { use = u; most = round; }
        }
        return what == 0 ? use : most;
    }

    int leastDues() {
        for (int tax = 0; tax < 100; tax++) {
            boolean gains = false;
            for (int u = 0; u < yards.length && !gains; u++) gains = round(u, tax) > 20;
            if (!gains) return tax;
        }
        return -1;
    }

    int cutting(int n) {
        if (n < -1 || n >= wants.length) return Due.UNKNOWN;
        int rows = 1, least = -1;
        int[] best = null;
        for (int i = 0; i < wants.length; i++) rows *= pieces.length;
        for (int row = 0; row < rows; row++) {
            int[] from = new int[wants.length], left = now.lengths.clone();
            int rest = row;
            for (int i = wants.length - 1; i >= 0; i--) { from[i] = rest % pieces.length; rest /= pieces.length; }
            int touched = 0, sum = 0;
            for (int i = 0; i < wants.length; i++) {
                left[from[i]] -= wants[i][1] * yards[wants[i][0]];
                touched |= 1 << from[i];
            }
            for (int p = 0; p < left.length; p++) {
                if (left[p] < 0) sum = Integer.MAX_VALUE;
                else if ((touched >> p & 1) == 1 && sum != Integer.MAX_VALUE) sum += left[p];
            }
            if (sum != Integer.MAX_VALUE && (best == null || sum < least)) { best = from; least = sum; }
        }
        if (best == null) return -1;
        return n == -1 ? least : best[n];
    }

    int honest(int n, int what) {
        if (n < 1 || n > 999 || what < 0 || what > 1) return Due.OUTSIDE;
        for (int over = 0; over < 99; over++) {
            int use = -1;
            for (int u = yards.length - 1; u >= 0; u--) {
                if (n % yards[u] == over && (use < 0 || yards[u] >= yards[use])) use = u;
            }
            if (use >= 0) return what == 0 ? use : over;
        }
        return -1;
    }

    int remnants() {
        int set = 0;
        for (int p = 0; p < pieces.length; p++) set |= now.lengths[p] < yards[now.declared[p]] ? 1 << p : 0;
        return set;
    }

    int kept(int n, int q) {
        if (n < 1 || n > 20 || q < 0 || q > 100) return Due.OUTSIDE;
        int[] odds = {1000000};
        for (int person = 1; person <= n; person++) {
            int[] next = new int[person + 1];
            for (int died = 0; died < person; died++) {
                int more = odds[died] * q / 100;
                next[died + 1] += more;
                next[died] += odds[died] - more;
            }
            odds = next;
        }
        int sum = 0, least = -1;
        while (sum < 900000) sum += odds[++least];
        return least;
    }

    int left(int n, int c, int l) {
        if (n < 1 || n > 40 || c < 0 || c > 999 || l < 0 || l > 9999) return Due.OUTSIDE;
        if (lefts.size() == 6) return Due.FULL;
        lefts.add(new int[] {n, c, l});
        return lefts.size();
    }

    int boughtFor() {
        int set = (1 << yards.length) - 1;
        for (int[] left : lefts) {
            for (int u = 0; u < yards.length; u++) if (left[0] * yards[u] != left[1] + left[2]) set &= ~(1 << u);
        }
        return set;
    }

    int ask() {
        int set = boughtFor();
        for (int n = 1; n <= 40; n++) {
            int uses = 0, alike = 0;
            for (int u = 0; u < yards.length; u++) {
                if ((set >> u & 1) == 0) continue;
                uses++;
                for (int v = 0; v < u; v++) if ((set >> v & 1) == 1 && n * yards[u] == n * yards[v]) alike++;
            }
            if (uses >= 2 && alike == 0) return n;
        }
        return -1;
    }

    int write(int p, int length) {
        if (p < 0 || p >= pieces.length) return Due.UNKNOWN;
        if (length < 0 || length > 9999) return Due.OUTSIDE;
        if (book.size() == 15) return Due.FULL;
        book.add(new int[] {p, length});
        return book.size();
    }

    int tear() {
        int had = lefts.size() + book.size();
        lefts.clear();
        book.clear();
        return had;
    }

    int judge() {
        for (int[] entry : book) if (now.lengths[entry[0]] != entry[1]) return book.indexOf(entry);
        return -1;
    }

    int seed(int v) {
        if (v < 0) return Due.OUTSIDE;
        int was = (int) now.seed;
        now.seed = v;
        return was;
    }

    int keep(int i) {
        if (i < 0 || i > 1) return Due.UNKNOWN;
        images[i] = now.copy();
        undoable.clear();
        return 1;
    }

    int goBack(int i) {
        if (i < 0 || i > 1) return Due.UNKNOWN;
        if (images[i] == null) return Due.NOT;
        now = images[i].copy();
        undoable.clear();
        return 1;
    }
}

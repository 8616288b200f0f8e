import java.util.ArrayList;
import java.util.HashMap;
import java.util.Map;
import java.util.TreeSet;

/**
 * The document told a second time, as plainly and slowly as can be, and by other ways than the class takes:
 * states are copied whole, colorings are counted through, rows of edges are compared as texts.
 */
final class Model {
    private static final class State {
        int d;
        int[] weights;
        boolean[][] joined;
        int[][] labels;
        int[] handle;
        int products;

        State(int n, int d) {
            this.d = d;
            weights = new int[n];
            java.util.Arrays.fill(weights, 1);
            joined = new boolean[n][n];
            labels = new int[n][d];
            handle = new int[d];
        }

        State copy() {
            State other = new State(weights.length, d);
            other.weights = weights.clone();
            for (int v = 0; v < weights.length; v++) {
                other.joined[v] = joined[v].clone();
                other.labels[v] = labels[v].clone();
            }
            other.handle = handle.clone();
            other.products = products;
            return other;
        }
    }

    private static final Map<String, int[]> COLORS = new HashMap<>();

    private State now = new State(4, 3);
    private final State[] snapshots = new State[2];
    private final ArrayList<State> saved = new ArrayList<>();
    private String buffer = "";

    private int n() {
        return now.weights.length;
    }

    private static void argument(boolean ok) {
        if (!ok) {
            throw new IllegalArgumentException();
        }
    }

    private static void state(boolean ok) {
        if (!ok) {
            throw new IllegalStateException();
        }
    }

    private static void index(boolean ok) {
        if (!ok) {
            throw new IndexOutOfBoundsException();
        }
    }

    private void isVertex(int v) {
        index(v >= 0 && v < n());
    }

    private void isPlace(int p) {
        index(p >= 0 && p < now.d);
    }

    private static void isSnapshot(int s) {
        index(s == 0 || s == 1);
    }

    private void save() {
        saved.add(now.copy());
        if (saved.size() > 6) {
            saved.remove(0);
        }
    }

    int begin(int n, int d) {
        argument(1 <= n && n <= 8 && 1 <= d && d <= 4);
        save();
        int before = n();
        int products = now.products;
        now = new State(n, d);
        now.products = products;
        return before;
    }

    int join(int a, int b, boolean is) {
        isVertex(a);
        isVertex(b);
        argument(a != b);
        save();
        now.joined[a][b] = is;
        now.joined[b][a] = is;
        return edges();
    }

    private int edges() {
        int sum = 0;
        for (int a = 0; a < n(); a++) {
            for (int b = 0; b < a; b++) {
                sum += now.joined[a][b] ? 1 : 0;
            }
        }
        return sum;
    }

    int weigh(int v, int weight) {
        isVertex(v);
        argument(0 <= weight && weight <= 9);
        save();
        int before = now.weights[v];
        now.weights[v] = weight;
        return before;
    }

    int complement() {
        save();
        for (int a = 0; a < n(); a++) {
            for (int b = 0; b < n(); b++) {
                now.joined[a][b] = a != b && !now.joined[a][b];
            }
        }
        return edges();
    }

    int remove(int v) {
        isVertex(v);
        state(n() > 1);
        save();
        State old = now;
        now = new State(n() - 1, old.d);
        now.handle = old.handle.clone();
        now.products = old.products;
        for (int a = 0; a < n(); a++) {
            int oldA = a + (a >= v ? 1 : 0);
            now.weights[a] = old.weights[oldA];
            now.labels[a] = old.labels[oldA].clone();
            for (int b = 0; b < n(); b++) {
                now.joined[a][b] = old.joined[oldA][b + (b >= v ? 1 : 0)];
            }
        }
        return n();
    }

    int multiply(int s) {
        state(whyNotMultiply(s) == 0);
        save();
        State one = now;
        State other = snapshots[s];
        int m = other.weights.length;
        now = new State(n() * m, one.d * other.d);
        now.products = one.products + 1;
        for (int x = 0; x < n(); x++) {
            now.weights[x] = one.weights[x / m] * other.weights[x % m];
            now.labels[x] = times(one.labels[x / m], other.labels[x % m]);
            for (int y = 0; y < n(); y++) {
                now.joined[x][y] = one.joined[x / m][y / m] || other.joined[x % m][y % m];
            }
        }
        now.handle = times(one.handle, other.handle);
        return n();
    }

    private static int[] times(int[] one, int[] other) {
        int[] all = new int[one.length * other.length];
        for (int k = 0; k < all.length; k++) {
            all[k] = one[k / other.length] * other[k % other.length];
        }
        return all;
    }

    int whyNotMultiply(int s) {
        isSnapshot(s);
        state(snapshots[s] != null);
        State other = snapshots[s];
        if (n() * other.weights.length > 8) {
            return 1;
        }
        if (now.d * other.d > 4) {
            return 2;
        }
        boolean four = great(now.handle, other.handle, 9);
        boolean three = false;
        for (int a = 0; a < n(); a++) {
            for (int b = 0; b < other.weights.length; b++) {
                three |= now.weights[a] * other.weights[b] > 9;
                four |= great(now.labels[a], other.labels[b], 9);
            }
        }
        return three ? 3 : four ? 4 : 0;
    }

    private static boolean great(int[] one, int[] other, int most) {
        for (int k : times(one, other)) {
            if (k > most || k < -most) {
                return true;
            }
        }
        return false;
    }

    int label(int v, int p, int value) {
        isVertex(v);
        isPlace(p);
        argument(-9 <= value && value <= 9);
        save();
        int before = now.labels[v][p];
        now.labels[v][p] = value;
        return before;
    }

    int hold(int p, int value) {
        isPlace(p);
        argument(-9 <= value && value <= 9);
        save();
        int before = now.handle[p];
        now.handle[p] = value;
        return before;
    }

    int labelByColors() {
        state(colorNumber() <= now.d);
        save();
        int[] colors = colors();
        now.labels = new int[n()][now.d];
        now.handle = new int[now.d];
        for (int v = 0; v < n(); v++) {
            now.labels[v][colors[v]] = 1;
            now.handle[colors[v]] = 1;
        }
        return colorNumber();
    }

    int takeHandle(int size) {
        argument(size == 1 || size == 2);
        save();
        if (bestHandle(size, 0) == -1) {
            return 0;
        }
        int[] best = new int[now.d];
        for (int p = 0; p < now.d; p++) {
            best[p] = (int) bestHandle(size, 10 + p);
        }
        now.handle = best;
        return 1;
    }

    int append(int code) {
        argument(33 <= code && code <= 126);
        state(buffer.length() < 60);
        buffer += (char) code;
        return buffer.length();
    }

    int clearBuffer() {
        int before = buffer.length();
        buffer = "";
        return before;
    }

    /** Whether some row of edges begins with this text. */
    private boolean begins(String part) {
        String rest = part;
        while (rest.length() > 3) {
            if (rest.charAt(2) != ',' || !begins(rest.substring(0, 2))) {
                return false;
            }
            rest = rest.substring(3);
        }
        for (int a = 0; a < n(); a++) {
            for (int b = a + 1; b < n(); b++) {
                if (("" + a + b + ",").startsWith(rest)) {
                    return true;
                }
            }
        }
        return false;
    }

    int firstError() {
        for (int k = 0; k < buffer.length(); k++) {
            if (!begins(buffer.substring(0, k + 1))) {
                return k;
            }
        }
        return buffer.length();
    }

    int read() {
        String[] all = buffer.split(",", -1);
        for (String edge : all) {
            argument(edge.matches("[0-7][0-7]") && edge.charAt(0) < edge.charAt(1) && edge.charAt(1) - '0' < n());
        }
        save();
        for (String edge : all) {
            now.joined[edge.charAt(0) - '0'][edge.charAt(1) - '0'] = true;
            now.joined[edge.charAt(1) - '0'][edge.charAt(0) - '0'] = true;
        }
        buffer = "";
        return edges();
    }

    int take(int s) {
        isSnapshot(s);
        snapshots[s] = now.copy();
        return n();
    }

    int restore(int s) {
        isSnapshot(s);
        state(snapshots[s] != null);
        save();
        int products = now.products;
        now = snapshots[s].copy();
        now.products = products;
        return n();
    }

    int undo() {
        state(!saved.isEmpty());
        now = saved.remove(saved.size() - 1);
        return saved.size();
    }

    int joined(int a, int b) {
        isVertex(a);
        isVertex(b);
        return now.joined[a][b] ? 1 : 0;
    }

    int vertex(int v, int what) {
        isVertex(v);
        argument(0 <= what && what <= 5 || 10 <= what && what <= 13);
        if (what >= 10) {
            return what - 10 < now.d ? now.labels[v][what - 10] : 0;
        }
        int degree = 0;
        for (boolean is : now.joined[v]) {
            degree += is ? 1 : 0;
        }
        int[] label = now.labels[v];
        switch (what) {
            case 0: return now.weights[v];
            case 1: return degree;
            case 2: return dot(label, label);
            case 3: return dot(label, now.handle);
            case 4: return colors()[v];
            default: return bestClique(v)[0];
        }
    }

    int handle(int p) {
        isPlace(p);
        return now.handle[p];
    }

    private static int dot(int[] a, int[] b) {
        int sum = 0;
        for (int k = 0; k < a.length; k++) {
            sum += a[k] * b[k];
        }
        return sum;
    }

    private int colorNumber() {
        TreeSet<Integer> all = new TreeSet<>();
        for (int color : colors()) {
            all.add(color);
        }
        return all.size();
    }

    private int[] colors() {
        StringBuilder key = new StringBuilder();
        for (boolean[] row : now.joined) {
            for (boolean is : row) {
                key.append(is ? '1' : '0');
            }
        }
        int[] known = COLORS.get(key.toString());
        for (int k = 1; known == null; k++) {
            known = countThrough(k);
        }
        COLORS.put(key.toString(), known);
        return known;
    }

    /** Counts in the base k through all rows of colors, and skips those that begin with a conflict. */
    private int[] countThrough(int k) {
        int[] row = new int[n()];
        while (true) {
            int wrong = conflict(row);
            if (wrong < 0) {
                return row;
            }
            for (int v = wrong + 1; v < n(); v++) {
                row[v] = 0;
            }
            int v = wrong;
            while (v >= 0 && row[v] == k - 1) {
                row[v] = 0;
                v--;
            }
            if (v < 0) {
                return null;
            }
            row[v]++;
        }
    }

    private int conflict(int[] row) {
        for (int b = 0; b < n(); b++) {
            for (int a = 0; a < b; a++) {
                if (now.joined[a][b] && row[a] == row[b]) {
                    return b;
                }
            }
        }
        return -1;
    }

    /** The weight, the mask, and the most vertices of cliques, those with the vertex alone if it is not below 0. */
    private int[] bestClique(int with) {
        int[] best = {-1, -1, -1};
        for (int mask = 0; mask < 1 << n(); mask++) {
            boolean clique = with < 0 || (mask >> with) % 2 == 1;
            int weight = 0;
            int size = 0;
            for (int a = 0; a < n(); a++) {
                if ((mask >> a) % 2 == 1) {
                    weight += now.weights[a];
                    size++;
                    for (int b = 0; b < a; b++) {
                        clique &= (mask >> b) % 2 == 0 || now.joined[a][b];
                    }
                }
            }
            if (clique && weight > best[0]) {
                best[0] = weight;
                best[1] = mask;
            }
            if (clique && size > best[2]) {
                best[2] = size;
            }
        }
        return best;
    }

    private int[] firstUnfit() {
        for (int a = 0; a < n(); a++) {
            for (int b = a + 1; b < n(); b++) {
                if (now.joined[a][b] && dot(now.labels[a], now.labels[b]) != 0) {
                    return new int[] {a, b};
                }
            }
        }
        return null;
    }

    private int firstMissed(int[] handle) {
        for (int v = 0; v < n(); v++) {
            if (now.weights[v] > 0 && dot(now.labels[v], handle) == 0) {
                return v;
            }
        }
        return -1;
    }

    private static long divisor(long a, long b) {
        return b == 0 ? a : divisor(b, a % b);
    }

    private long[] boundBy(int[] handle) {
        if (firstUnfit() != null || firstMissed(handle) >= 0) {
            return new long[] {-1, -1, -1};
        }
        long[] best = {0, 1, -1};
        for (int v = n() - 1; v >= 0; v--) {
            if (now.weights[v] > 0) {
                long above = (long) now.weights[v] * dot(handle, handle) * dot(now.labels[v], now.labels[v]);
                long below = (long) dot(handle, now.labels[v]) * dot(handle, now.labels[v]);
                if (above * best[1] >= best[0] * below) {
                    best = new long[] {above / divisor(above, below), below / divisor(above, below), v};
                }
            }
        }
        return best;
    }

    long bound(int part) {
        argument(0 <= part && part <= 2);
        return boundBy(now.handle)[part];
    }

    int whyNot(int what) {
        argument(0 <= what && what <= 2);
        int[] pair = firstUnfit();
        int missed = firstMissed(now.handle);
        int[] first = {1, pair == null ? 0 : pair[0], pair == null ? 0 : pair[1]};
        int[] second = {2, missed, -1};
        int[] none = {0, -1, -1};
        return (pair != null ? first : missed >= 0 ? second : none)[what];
    }

    long bestHandle(int size, int what) {
        argument(size == 1 || size == 2);
        argument(what == 0 || what == 1 || 10 <= what && what <= 13);
        int[] best = new int[4];
        long[] least = bestFrom(size, new int[now.d], 0, new long[] {-1, -1}, best);
        return what < 10 ? least[what] : best[what - 10];
    }

    private long[] bestFrom(int size, int[] trial, int place, long[] least, int[] best) {
        if (place == trial.length) {
            long[] bound = boundBy(trial);
            if (bound[0] >= 0 && (least[0] < 0 || bound[0] * least[1] < least[0] * bound[1])) {
                System.arraycopy(trial, 0, best, 0, trial.length);
                return bound;
            }
            return least;
        }
        long[] found = least;
        for (int number = -size; number <= size; number++) {
            trial[place] = number;
            found = bestFrom(size, trial, place + 1, found, best);
        }
        return found;
    }

    int count(int what) {
        argument(0 <= what && what <= 11);
        int unfit = 0;
        for (int a = 0; a < n(); a++) {
            for (int b = 0; b < a; b++) {
                unfit += now.joined[a][b] && dot(now.labels[a], now.labels[b]) != 0 ? 1 : 0;
            }
        }
        switch (what) {
            case 0: return n();
            case 1: return now.d;
            case 2: return edges();
            case 3: return bestClique(-1)[0];
            case 4: return bestClique(-1)[1];
            case 5: return bestClique(-1)[2];
            case 6: return colorNumber();
            case 7: return unfit;
            case 8: return dot(now.handle, now.handle);
            case 9: return now.products;
            case 10: return (snapshots[0] == null ? 0 : 1) + (snapshots[1] == null ? 0 : 1);
            default: return saved.size();
        }
    }

    double nearness() {
        long[] bound = boundBy(now.handle);
        return bound[0] <= 0 ? 0.0 : (double) count(3) * bound[1] / bound[0];
    }

    long digest() {
        ArrayList<Long> all = new ArrayList<>();
        for (int what = 0; what <= 11; what++) {
            all.add((long) count(what));
        }
        for (int v = 0; v < n(); v++) {
            for (int what : new int[] {0, 1, 2, 3, 4, 5, 10, 11, 12, 13}) {
                all.add((long) vertex(v, what));
            }
            for (int other = 0; other < n(); other++) {
                all.add((long) joined(v, other));
            }
        }
        for (int number : now.handle) {
            all.add((long) number);
        }
        for (int part = 0; part <= 2; part++) {
            all.add(bound(part));
        }
        for (int what = 0; what <= 2; what++) {
            all.add((long) whyNot(what));
        }
        for (int what : new int[] {0, 1, 10, 11, 12, 13}) {
            all.add(bestHandle(1, what));
        }
        all.add(Double.doubleToLongBits(nearness()));
        all.add((long) buffer.length());
        for (char code : buffer.toCharArray()) {
            all.add((long) code);
        }
        long hash = 2521;
        for (long value : all) {
            hash = 31 * hash + value;
        }
        return hash;
    }
}

import java.util.Arrays;

/**
 * Bounds on cliques by labels. All rows are made once, with the object, and used again, since whatever a run makes
 * stays in its room: no call makes anything but the exception that it throws.
 */
public final class CliqueLabels {
    /** There is nothing to return. */
    public static final int NONE = -1;

    private static final int MOST_VERTICES = 8;
    private static final int MOST_PLACES = 4;
    private static final int MOST_WEIGHT = 9;
    private static final int MOST_NUMBER = 9;
    private static final int MOST_SIZE = 2;
    private static final int FIRST_CODE = 33;
    private static final int LAST_CODE = 126;
    private static final int MOST_CODES = 60;
    private static final int SNAPSHOTS = 2;
    private static final int MOST_SAVED = 6;
    private static final int LAST_COUNT = 11;

    private static final int TOO_MANY_VERTICES = 1;
    private static final int TOO_MANY_PLACES = 2;
    private static final int TOO_HEAVY = 3;
    private static final int TOO_GREAT_NUMBER = 4;

    private static final int FIRST_PLACE = 10;
    private static final int LAST_PLACE = FIRST_PLACE + MOST_PLACES - 1;

    private static final long HASH_START = 2521L;

    private final Graph now = new Graph();
    private final Graph[] snapshots = new Graph[SNAPSHOTS];
    private final boolean[] taken = new boolean[SNAPSHOTS];
    private final History history = new History();
    private final EdgeText text = new EdgeText();
    private final Coloring coloring = new Coloring();
    private final Cliques cliques = new Cliques();
    private final Bound told = new Bound();
    private final HandleSearch search = new HandleSearch();
    private int productsMade = 0;

    public CliqueLabels() {
        for (int k = 0; k < SNAPSHOTS; k++) {
            snapshots[k] = new Graph();
        }
    }

    // ---- graph

    public int begin(int n, int d) throws IllegalArgumentException {
        if (n < 1 || n > MOST_VERTICES || d < 1 || d > MOST_PLACES) {
            throw new IllegalArgumentException("no such number of vertices, or no such dimension");
        }
        int before = now.n;
        saveState();
        now.clear(n, d);
        return before;
    }

    public int join(int a, int b, boolean is) throws IndexOutOfBoundsException, IllegalArgumentException {
        checkVertex(a);
        checkVertex(b);
        if (a == b) {
            throw new IllegalArgumentException("a vertex is not joined with itself");
        }
        saveState();
        now.connect(a, b, is);
        return now.edges();
    }

    public int weigh(int vertex, int weight) throws IndexOutOfBoundsException, IllegalArgumentException {
        checkVertex(vertex);
        if (weight < 0 || weight > MOST_WEIGHT) {
            throw new IllegalArgumentException("no such weight");
        }
        int before = now.weights[vertex];
        saveState();
        now.weights[vertex] = weight;
        return before;
    }

    public int complement() {
        saveState();
        now.flipEdges();
        return now.edges();
    }

    public int remove(int vertex) throws IndexOutOfBoundsException, IllegalStateException {
        checkVertex(vertex);
        if (now.n == 1) {
            throw new IllegalStateException("it is the only vertex");
        }
        saveState();
        now.drop(vertex);
        return now.n;
    }

    public int multiply(int snapshot) throws IndexOutOfBoundsException, IllegalStateException {
        checkTaken(snapshot);
        Graph second = snapshots[snapshot];
        if (reasonAgainst(now, second) != 0) {
            throw new IllegalStateException("there is a reason against the product");
        }
        saveState();
        now.becomeProduct(history.latestGraph(), second);
        productsMade++;
        return now.n;
    }

    // ---- labels, handle

    public int label(int vertex, int place, int value) throws IndexOutOfBoundsException, IllegalArgumentException {
        checkVertex(vertex);
        checkPlace(place);
        checkNumber(value);
        int before = now.labels[vertex][place];
        saveState();
        now.labels[vertex][place] = value;
        return before;
    }

    public int hold(int place, int value) throws IndexOutOfBoundsException, IllegalArgumentException {
        checkPlace(place);
        checkNumber(value);
        int before = now.handle[place];
        saveState();
        now.handle[place] = value;
        return before;
    }

    public int labelByColors() throws IllegalStateException {
        coloring.find(now);
        if (coloring.number > now.d) {
            throw new IllegalStateException("there are more colors than the dimension");
        }
        saveState();
        now.labelBy(coloring);
        return coloring.number;
    }

    public int takeHandle(int size) throws IllegalArgumentException {
        checkSize(size);
        search.run(now, size);
        saveState();
        if (!search.least.exists) {
            return 0;
        }
        System.arraycopy(search.best, 0, now.handle, 0, MOST_PLACES);
        return 1;
    }

    // ---- texts, snapshots

    public int append(int code) throws IllegalArgumentException, IllegalStateException {
        if (code < FIRST_CODE || code > LAST_CODE) {
            throw new IllegalArgumentException("no such character");
        }
        if (text.length >= MOST_CODES) {
            throw new IllegalStateException("the buffer is full");
        }
        text.codes[text.length] = (char) code;
        text.length++;
        return text.length;
    }

    public int clearBuffer() {
        int before = text.length;
        text.length = 0;
        return before;
    }

    public int firstError() {
        return text.firstFault(now.n);
    }

    public int read() throws IllegalArgumentException {
        if (!text.isWhole(now.n)) {
            throw new IllegalArgumentException("the buffer is not a complete row of edges");
        }
        saveState();
        text.joinAll(now);
        text.length = 0;
        return now.edges();
    }

    public int take(int snapshot) throws IndexOutOfBoundsException {
        checkSnapshot(snapshot);
        snapshots[snapshot].copyFrom(now);
        taken[snapshot] = true;
        return now.n;
    }

    public int restore(int snapshot) throws IndexOutOfBoundsException, IllegalStateException {
        checkTaken(snapshot);
        saveState();
        now.copyFrom(snapshots[snapshot]);
        return now.n;
    }

    public int undo() throws IllegalStateException {
        if (history.size == 0) {
            throw new IllegalStateException("there is no saved state");
        }
        now.copyFrom(history.latestGraph());
        productsMade = history.latestProducts();
        history.dropLatest();
        return history.size;
    }

    // ---- looks; nothing is changed

    public int joined(int a, int b) throws IndexOutOfBoundsException {
        checkVertex(a);
        checkVertex(b);
        return now.areJoined(a, b) ? 1 : 0;
    }

    public int vertex(int vertex, int what) throws IndexOutOfBoundsException, IllegalArgumentException {
        checkVertex(vertex);
        if (what < 0 || what > LAST_PLACE || (what > 5 && what < FIRST_PLACE)) {
            throw new IllegalArgumentException("no such property");
        }
        searchGraph();
        return propertyOf(vertex, what);
    }

    public int handle(int place) throws IndexOutOfBoundsException {
        checkPlace(place);
        return now.handle[place];
    }

    public long bound(int part) throws IllegalArgumentException {
        checkPart(part);
        told.tellOf(now);
        return told.partOf(part);
    }

    public int whyNot(int what) throws IllegalArgumentException {
        checkPart(what);
        return whyNoBound(what);
    }

    public int whyNotMultiply(int snapshot) throws IndexOutOfBoundsException, IllegalStateException {
        checkTaken(snapshot);
        return reasonAgainst(now, snapshots[snapshot]);
    }

    public long bestHandle(int size, int what) throws IllegalArgumentException {
        checkSize(size);
        if (what < 0 || what > LAST_PLACE || (what > 1 && what < FIRST_PLACE)) {
            throw new IllegalArgumentException("no such number of a handle");
        }
        search.run(now, size);
        return search.answer(what);
    }

    public int count(int what) throws IllegalArgumentException {
        if (what < 0 || what > LAST_COUNT) {
            throw new IllegalArgumentException("no such number");
        }
        searchGraph();
        return numberOf(what);
    }

    public double nearness() {
        searchGraph();
        return share();
    }

    public long digest() {
        searchGraph();
        long hash = HASH_START;
        for (int what = 0; what <= LAST_COUNT; what++) {
            hash = mix(hash, numberOf(what));
        }
        hash = mixVertices(hash);
        for (int place = 0; place < now.d; place++) {
            hash = mix(hash, now.handle[place]);
        }
        hash = mixBounds(hash);
        hash = mix(hash, bitsOf(share()));
        hash = mix(hash, text.length);
        for (int k = 0; k < text.length; k++) {
            hash = mix(hash, text.codes[k]);
        }
        return hash;
    }

    // ---- what the calls share

    private void checkVertex(int number) {
        if (number < 0 || number >= now.n) {
            throw new IndexOutOfBoundsException("no such vertex");
        }
    }

    private void checkPlace(int place) {
        if (place < 0 || place >= now.d) {
            throw new IndexOutOfBoundsException("no such place");
        }
    }

    private void checkSnapshot(int number) {
        if (number < 0 || number >= SNAPSHOTS) {
            throw new IndexOutOfBoundsException("no such snapshot");
        }
    }

    private void checkTaken(int number) {
        checkSnapshot(number);
        if (!taken[number]) {
            throw new IllegalStateException("the snapshot was not taken");
        }
    }

    private static void checkNumber(int value) {
        if (value < -MOST_NUMBER || value > MOST_NUMBER) {
            throw new IllegalArgumentException("no such number of a vector");
        }
    }

    private static void checkSize(int size) {
        if (size < 1 || size > MOST_SIZE) {
            throw new IllegalArgumentException("no such size of a handle");
        }
    }

    private static void checkPart(int part) {
        if (part < 0 || part > 2) {
            throw new IllegalArgumentException("no such part");
        }
    }

    private void saveState() {
        history.save(now, productsMade);
    }

    /** Finds the coloring and the cliques, which propertyOf, numberOf and share look at. */
    private void searchGraph() {
        coloring.find(now);
        cliques.find(now);
    }

    private int propertyOf(int number, int what) {
        switch (what) {
            case 0:
                return now.weights[number];
            case 1:
                return Integer.bitCount(now.neighbors[number]);
            case 2:
                return product(now.labels[number], now.labels[number]);
            case 3:
                return product(now.labels[number], now.handle);
            case 4:
                return coloring.colors[number];
            case 5:
                return cliques.weightOf(cliques.heaviestWith(1 << number));
            default:
                return now.labels[number][what - FIRST_PLACE];
        }
    }

    private int numberOf(int what) {
        switch (what) {
            case 0:
                return now.n;
            case 1:
                return now.d;
            case 2:
                return now.edges();
            case 3:
                return cliques.weightOf(cliques.heaviestWith(0));
            case 4:
                return cliques.heaviestWith(0);
            case 5:
                return cliques.mostVertices();
            case 6:
                return coloring.number;
            case 7:
                return now.unfitPairs();
            case 8:
                return product(now.handle, now.handle);
            case 9:
                return productsMade;
            case 10:
                return takenSnapshots();
            default:
                return history.size;
        }
    }

    private int takenSnapshots() {
        int sum = 0;
        for (int k = 0; k < SNAPSHOTS; k++) {
            sum += taken[k] ? 1 : 0;
        }
        return sum;
    }

    private double share() {
        told.tellOf(now);
        if (told.above <= 0) {
            return 0.0;
        }
        double weight = cliques.weightOf(cliques.heaviestWith(0));
        return weight * (double) told.below / (double) told.above;
    }

    private int whyNoBound(int what) {
        int lower = now.firstUnfit();
        if (lower != NONE) {
            return what == 0 ? 1 : what == 1 ? lower : now.unfitPartner(lower);
        }
        int missed = now.firstMissed(now.handle);
        if (missed != NONE) {
            return what == 0 ? 2 : what == 1 ? missed : NONE;
        }
        return what == 0 ? 0 : NONE;
    }

    /** Numbers lie as far below 0 as above it, so the one furthest from 0 of each graph decides for all of them. */
    private static int reasonAgainst(Graph first, Graph second) {
        if (first.n * second.n > MOST_VERTICES) {
            return TOO_MANY_VERTICES;
        }
        if (first.d * second.d > MOST_PLACES) {
            return TOO_MANY_PLACES;
        }
        if (first.greatestWeight() * second.greatestWeight() > MOST_WEIGHT) {
            return TOO_HEAVY;
        }
        if (first.furthestOfLabels() * second.furthestOfLabels() > MOST_NUMBER
                || furthest(first.handle) * furthest(second.handle) > MOST_NUMBER) {
            return TOO_GREAT_NUMBER;
        }
        return 0;
    }

    private static long mix(long hash, long value) {
        return 31L * hash + value;
    }

    private long mixVertices(long start) {
        long hash = start;
        for (int v = 0; v < now.n; v++) {
            for (int what = 0; what <= 5; what++) {
                hash = mix(hash, propertyOf(v, what));
            }
            for (int what = FIRST_PLACE; what <= LAST_PLACE; what++) {
                hash = mix(hash, propertyOf(v, what));
            }
            for (int other = 0; other < now.n; other++) {
                hash = mix(hash, now.areJoined(v, other) ? 1 : 0);
            }
        }
        return hash;
    }

    private long mixBounds(long start) {
        long hash = start;
        told.tellOf(now);
        for (int part = 0; part <= 2; part++) {
            hash = mix(hash, told.partOf(part));
        }
        for (int what = 0; what <= 2; what++) {
            hash = mix(hash, whyNoBound(what));
        }
        search.run(now, 1);
        hash = mix(hash, search.answer(0));
        hash = mix(hash, search.answer(1));
        for (int what = FIRST_PLACE; what <= LAST_PLACE; what++) {
            hash = mix(hash, search.answer(what));
        }
        return hash;
    }

    /** The bits are made by hand, as the language has no call for them. A share is 0 or far from the least doubles. */
    private static long bitsOf(double share) {
        if (share <= 0.0) {
            return 0L;
        }
        double scaled = share;
        long exponent = 1023L;
        // No clique is heavier than the bound, so a share is never above 1.
        for (int k = 0; k < 1000 && scaled < 1.0; k++) {
            scaled = scaled * 2.0;
            exponent--;
        }
        return (exponent << 52) + (long) ((scaled - 1.0) * 4503599627370496.0);
    }

    /** Places behind the dimension hold 0 in every vector, so vectors are multiplied whole. */
    private static int product(int[] a, int[] b) {
        int sum = 0;
        for (int place = 0; place < MOST_PLACES; place++) {
            sum += a[place] * b[place];
        }
        return sum;
    }

    private static int furthest(int[] vector) {
        int most = 0;
        for (int place = 0; place < MOST_PLACES; place++) {
            most = Math.max(most, Math.abs(vector[place]));
        }
        return most;
    }

    /** A graph with weights, labels and a handle; the neighbors of a vertex are a mask. */
    private static final class Graph {
        int n = 4;
        int d = 3;
        final int[] neighbors = new int[MOST_VERTICES];
        final int[] weights = new int[MOST_VERTICES];
        final int[][] labels = new int[MOST_VERTICES][MOST_PLACES];
        final int[] handle = new int[MOST_PLACES];

        Graph() {
            Arrays.fill(weights, 1);
        }

        void clear(int vertices, int dimension) {
            n = vertices;
            d = dimension;
            Arrays.fill(neighbors, 0);
            Arrays.fill(weights, 1);
            for (int v = 0; v < MOST_VERTICES; v++) {
                Arrays.fill(labels[v], 0);
            }
            Arrays.fill(handle, 0);
        }

        void copyFrom(Graph other) {
            n = other.n;
            d = other.d;
            System.arraycopy(other.neighbors, 0, neighbors, 0, MOST_VERTICES);
            System.arraycopy(other.weights, 0, weights, 0, MOST_VERTICES);
            for (int v = 0; v < MOST_VERTICES; v++) {
                System.arraycopy(other.labels[v], 0, labels[v], 0, MOST_PLACES);
            }
            System.arraycopy(other.handle, 0, handle, 0, MOST_PLACES);
        }

        boolean areJoined(int a, int b) {
            return (neighbors[a] & (1 << b)) != 0;
        }

        void connect(int a, int b, boolean is) {
            if (is) {
                neighbors[a] |= 1 << b;
                neighbors[b] |= 1 << a;
            } else {
                neighbors[a] &= ~(1 << b);
                neighbors[b] &= ~(1 << a);
            }
        }

        int edges() {
            int ends = 0;
            for (int v = 0; v < n; v++) {
                ends += Integer.bitCount(neighbors[v]);
            }
            return ends / 2;
        }

        void flipEdges() {
            int all = (1 << n) - 1;
            for (int v = 0; v < n; v++) {
                neighbors[v] = all & ~neighbors[v] & ~(1 << v);
            }
        }

        void drop(int vertex) {
            int before = (1 << vertex) - 1;
            for (int v = 0; v < n; v++) {
                int mask = neighbors[v];
                neighbors[v] = (mask & before) | ((mask >> 1) & ~before);
            }
            for (int v = vertex; v + 1 < n; v++) {
                neighbors[v] = neighbors[v + 1];
                weights[v] = weights[v + 1];
                System.arraycopy(labels[v + 1], 0, labels[v], 0, MOST_PLACES);
            }
            n--;
        }

        /** The caller has seen that there is no reason against it, and that neither graph is this one. */
        void becomeProduct(Graph first, Graph second) {
            clear(first.n * second.n, first.d * second.d);
            for (int i = 0; i < first.n; i++) {
                for (int j = 0; j < second.n; j++) {
                    int v = second.n * i + j;
                    neighbors[v] = productNeighbors(first, i, second, j);
                    weights[v] = first.weights[i] * second.weights[j];
                    fillProduct(first, first.labels[i], second, second.labels[j], labels[v]);
                }
            }
            fillProduct(first, first.handle, second, second.handle, handle);
        }

        private static int productNeighbors(Graph first, int i, Graph second, int j) {
            int mask = 0;
            for (int a = 0; a < first.n; a++) {
                for (int b = 0; b < second.n; b++) {
                    if (first.areJoined(i, a) || second.areJoined(j, b)) {
                        mask |= 1 << (second.n * a + b);
                    }
                }
            }
            return mask;
        }

        private static void fillProduct(Graph first, int[] one, Graph second, int[] other, int[] into) {
            for (int p = 0; p < first.d; p++) {
                for (int q = 0; q < second.d; q++) {
                    into[second.d * p + q] = one[p] * other[q];
                }
            }
        }

        /** The caller has seen that there are no more colors than places. */
        void labelBy(Coloring found) {
            for (int place = 0; place < MOST_PLACES; place++) {
                for (int v = 0; v < n; v++) {
                    labels[v][place] = place == found.colors[v] ? 1 : 0;
                }
                handle[place] = place < found.number ? 1 : 0;
            }
        }

        int greatestWeight() {
            int most = 0;
            for (int v = 0; v < n; v++) {
                most = Math.max(most, weights[v]);
            }
            return most;
        }

        int furthestOfLabels() {
            int most = 0;
            for (int v = 0; v < n; v++) {
                most = Math.max(most, furthest(labels[v]));
            }
            return most;
        }

        boolean unfit(int a, int b) {
            return areJoined(a, b) && product(labels[a], labels[b]) != 0;
        }

        int unfitPairs() {
            int sum = 0;
            for (int a = 0; a < n; a++) {
                for (int b = a + 1; b < n; b++) {
                    sum += unfit(a, b) ? 1 : 0;
                }
            }
            return sum;
        }

        /** The lowest of the vertices behind this one with which it does not fit. */
        int unfitPartner(int lower) {
            for (int b = lower + 1; b < n; b++) {
                if (unfit(lower, b)) {
                    return b;
                }
            }
            return NONE;
        }

        int firstUnfit() {
            for (int a = 0; a < n; a++) {
                if (unfitPartner(a) != NONE) {
                    return a;
                }
            }
            return NONE;
        }

        /** The first vertex with a weight above 0 whose label has the product 0 with a handle. */
        int firstMissed(int[] grip) {
            for (int v = 0; v < n; v++) {
                if (weights[v] > 0 && product(grip, labels[v]) == 0) {
                    return v;
                }
            }
            return NONE;
        }
    }

    /** The saved states in a ring: the newest takes the room of the oldest one. */
    private static final class History {
        private final Graph[] graphs = new Graph[MOST_SAVED];
        private final int[] products = new int[MOST_SAVED];
        private int latest = 0;
        int size = 0;

        History() {
            for (int k = 0; k < MOST_SAVED; k++) {
                graphs[k] = new Graph();
            }
        }

        void save(Graph graph, int made) {
            latest = latest + 1 < MOST_SAVED ? latest + 1 : 0;
            graphs[latest].copyFrom(graph);
            products[latest] = made;
            size = Math.min(size + 1, MOST_SAVED);
        }

        Graph latestGraph() {
            return graphs[latest];
        }

        int latestProducts() {
            return products[latest];
        }

        void dropLatest() {
            latest = latest > 0 ? latest - 1 : MOST_SAVED - 1;
            size--;
        }
    }

    /** The buffer, as a row of edges: two digits each, and "," between them. */
    private static final class EdgeText {
        private static final int STEP = 3;
        final char[] codes = new char[MOST_CODES];
        int length = 0;

        int firstFault(int n) {
            for (int k = 0; k < length; k++) {
                if (!goesOn(k, n)) {
                    return k;
                }
            }
            return length;
        }

        /** Whether a row can go on with this character, where all before it are right. */
        private boolean goesOn(int k, int n) {
            char code = codes[k];
            switch (k % STEP) {
                case 0:
                    // The greatest vertex is the lesser one of no edge.
                    return code >= '0' && code < '0' + n - 1;
                case 1:
                    return code > codes[k - 1] && code < '0' + n;
                default:
                    return code == ',';
            }
        }

        boolean isWhole(int n) {
            return length % STEP == STEP - 1 && firstFault(n) == length;
        }

        /** The caller has seen that the text is a whole row for this graph. */
        void joinAll(Graph graph) {
            for (int k = 0; k + 1 < length; k += STEP) {
                graph.connect(codes[k] - '0', codes[k + 1] - '0', true);
            }
        }
    }

    /** The coloring with the fewest colors, of several the first one in the order of its colors. */
    private static final class Coloring {
        final int[] colors = new int[MOST_VERTICES];
        int number = 0;

        void find(Graph graph) {
            for (int most = 1; most <= graph.n; most++) {
                if (paint(graph, colors, most, 0, 0)) {
                    number = most;
                    return;
                }
            }
        }

        /** A color is new only behind all used ones: a first coloring leaves no color out. */
        private static boolean paint(Graph graph, int[] colors, int most, int vertex, int used) {
            if (vertex >= graph.n) {
                return true;
            }
            for (int color = 0; color <= used && color < most; color++) {
                if (isFree(graph, colors, vertex, color)) {
                    colors[vertex] = color;
                    if (paint(graph, colors, most, vertex + 1, Math.max(used, color + 1))) {
                        return true;
                    }
                }
            }
            return false;
        }

        private static boolean isFree(Graph graph, int[] colors, int vertex, int color) {
            for (int lower = 0; lower < vertex; lower++) {
                if (colors[lower] == color && graph.areJoined(lower, vertex)) {
                    return false;
                }
            }
            return true;
        }
    }

    /** The weights of all cliques by their masks, NONE where a mask is no clique. */
    private static final class Cliques {
        private final int[] weights = new int[1 << MOST_VERTICES];
        private int masks = 1;

        void find(Graph graph) {
            weights[0] = 0;
            masks = 1;
            // The masks so far are those of the vertices before v: each of them is tried with v.
            for (int v = 0; v < graph.n; v++) {
                for (int mask = 0; mask < masks; mask++) {
                    boolean goesOn = weights[mask] != NONE && (mask & ~graph.neighbors[v]) == 0;
                    weights[masks + mask] = goesOn ? weights[mask] + graph.weights[v] : NONE;
                }
                masks *= 2;
            }
        }

        int weightOf(int mask) {
            return weights[mask];
        }

        /** The lowest mask of the heaviest cliques that hold all vertices of the mask, itself a clique. */
        int heaviestWith(int must) {
            int best = must;
            for (int mask = 0; mask < masks; mask++) {
                if ((mask & must) == must && weights[mask] > weights[best]) {
                    best = mask;
                }
            }
            return best;
        }

        int mostVertices() {
            int most = 0;
            for (int mask = 0; mask < masks; mask++) {
                if (weights[mask] != NONE) {
                    most = Math.max(most, Integer.bitCount(mask));
                }
            }
            return most;
        }
    }

    /** A bound as a fraction, with the vertex by which it is told; all three are NONE where there is none. */
    private static final class Bound {
        private static final int MOST_STEPS = 100;
        boolean exists = false;
        long above = NONE;
        long below = NONE;
        int teller = NONE;

        /** The bound of a graph with its own handle, in lowest terms. */
        void tellOf(Graph graph) {
            if (graph.firstUnfit() != NONE) {
                tellNone();
                return;
            }
            measure(graph, graph.handle);
            reduce();
        }

        void tellNone() {
            exists = false;
            above = NONE;
            below = NONE;
            teller = NONE;
        }

        /** The bound by a handle where the labels fit, not yet in lowest terms. */
        void measure(Graph graph, int[] grip) {
            if (graph.firstMissed(grip) != NONE) {
                tellNone();
                return;
            }
            exists = true;
            above = 0;
            below = 1;
            teller = NONE;
            long square = product(grip, grip);
            for (int v = 0; v < graph.n; v++) {
                if (graph.weights[v] > 0) {
                    int[] row = graph.labels[v];
                    long shared = product(grip, row);
                    raise(graph.weights[v] * square * product(row, row), shared * shared, v);
                }
            }
        }

        private void raise(long top, long bottom, int v) {
            if (top * below > above * bottom) {
                above = top;
                below = bottom;
                teller = v;
            }
        }

        boolean isLessThan(Bound other) {
            return above * other.below < other.above * below;
        }

        void copyFrom(Bound other) {
            exists = other.exists;
            above = other.above;
            below = other.below;
            teller = other.teller;
        }

        void reduce() {
            if (!exists) {
                return;
            }
            long divisor = above;
            long rest = below;
            for (int step = 0; step < MOST_STEPS && rest != 0; step++) {
                long next = divisor % rest;
                divisor = rest;
                rest = next;
            }
            if (divisor > 1) {
                above /= divisor;
                below /= divisor;
            }
        }

        long partOf(int part) {
            return part == 0 ? above : part == 1 ? below : teller;
        }
    }

    /** Tries all handles of a size in their order, so that the first one with the least bound stays. */
    private static final class HandleSearch {
        final int[] best = new int[MOST_PLACES];
        final Bound least = new Bound();
        private final int[] trial = new int[MOST_PLACES];
        private final Bound tried = new Bound();

        void run(Graph graph, int size) {
            Arrays.fill(best, 0);
            least.tellNone();
            if (graph.firstUnfit() != NONE) {
                return;
            }
            int handles = begins(graph.d, size);
            for (int k = 0; k < handles; k++) {
                tried.measure(graph, trial);
                if (tried.exists && (!least.exists || tried.isLessThan(least))) {
                    least.copyFrom(tried);
                    System.arraycopy(trial, 0, best, 0, MOST_PLACES);
                }
                goOn(graph.d, size);
            }
            least.reduce();
        }

        /** Sets the first handle; returns how many there are. */
        private int begins(int d, int size) {
            int handles = 1;
            for (int place = 0; place < MOST_PLACES; place++) {
                trial[place] = place < d ? -size : 0;
                handles *= place < d ? 2 * size + 1 : 1;
            }
            return handles;
        }

        private void goOn(int d, int size) {
            for (int place = d - 1; place >= 0; place--) {
                if (trial[place] < size) {
                    trial[place]++;
                    return;
                }
                trial[place] = -size;
            }
        }

        long answer(int what) {
            return what < FIRST_PLACE ? least.partOf(what) : best[what - FIRST_PLACE];
        }
    }
}

import java.util.ArrayList;

/** The terms of the document at their limits: each sentence that names one has a method of its own. */
public final class TermLimitsTest {
    public static void main(String[] args) {
        labelsFitBy0Alone();
        onlyJoinedOnesHaveToFit();
        cliquesOfAllSizes();
        colorsOfAllNumbers();
        noCliqueIsAboveTheBound();
        lowestTerms();
        productsOfAllSizes();
        productsOfEdges();
        reason1();
        reason2();
        reason3();
        reason4();
        theFirstReasonThatApplies();
        snapshotsKeep();
        undoableCalls();
        refusedCallsSaveNothing();
        whatIsCountedIsUndone();
        theOldestIsDroppedFirst();
        theRingGoesRound();
        exceptionNamedFirst();
        objectsShareNothing();
        the512thCall();
        Check.finish("TermLimitsTest");
    }

    private static CliqueLabels two(int a, int b, int c, int d) {
        CliqueLabels x = Check.graph(2, 2, "01");
        Check.labels(x, 0, a, b);
        Check.labels(x, 1, c, d);
        Check.weights(x, 0, 0);
        return x;
    }

    // "The labels fit the graph if the product of the labels of any two vertices that are joined is 0."
    private static void labelsFitBy0Alone() {
        int[][] rows = {{1, 0, 0, 1, 0}, {0, 0, 9, 9, 0}, {3, 4, -4, 3, 0}, {9, 9, 9, -9, 0}, {9, -9, -9, -9, 0},
            {1, 0, 1, 0, 1}, {1, 0, -1, 0, 1}, {3, 4, 1, -1, 1}, {3, 4, -1, 1, 1}, {9, 9, 9, 9, 1}, {9, 9, -9, -9, 1},
            {8, 9, 9, -8, 0}, {8, 9, 9, -9, 1}, {0, 1, 0, -1, 1}};
        for (int[] row : rows) {
            CliqueLabels x = two(row[0], row[1], row[2], row[3]);
            String what = "labels " + row[0] + " " + row[1] + " and " + row[2] + " " + row[3];
            Check.due(what + ": pairs that do not fit", x.count(7), row[4]);
            Check.due(what + ": whyNot", x.whyNot(0), row[4]);
            Check.due(what + ": bound", x.bound(0), row[4] == 0 ? 0 : -1);
            Check.due(what + ": best handle", x.bestHandle(1, 10), row[4] == 0 ? -1 : 0);
            x.join(0, 1, false);
            Check.due(what + ": none is joined", x.count(7), 0);
            Check.due(what + ": none is joined, bound", x.bound(1), 1);
        }
    }

    // "of any two vertices that are joined": the first and the last pair of eight, and all of them
    private static void onlyJoinedOnesHaveToFit() {
        CliqueLabels x = Check.graph(8, 1, "");
        for (int v = 0; v < 8; v++) {
            x.label(v, 0, 1);
        }
        x.hold(0, 1);
        Check.due("none joined", x.count(7), 0);
        Check.due("none joined: bound", x.bound(0), 1);
        x.join(6, 7, true);
        Check.due("the last pair", x.count(7), 1);
        Check.due("the last pair: bound", x.bound(0), -1);
        x.complement();
        Check.due("all but the last pair", x.count(7), 27);
        x.join(7, 6, true);
        Check.due("all pairs", x.count(7), 28);
        x.label(0, 0, 0);
        Check.due("a label 0 fits with all", x.count(7), 21);
        CliqueLabels one = Check.graph(1, 1, "");
        one.label(0, 0, 9);
        Check.due("one vertex has no pair", one.count(7), 0);
    }

    // "A clique is a set of vertices, perhaps empty, of which any two are joined": from none to all eight
    private static void cliquesOfAllSizes() {
        for (int n = 1; n <= 8; n++) {
            CliqueLabels x = Check.graph(n, 1, "");
            x.complement();
            Check.due("all of " + n, x.count(4), (1 << n) - 1);
            Check.due("all of " + n + ": weight", x.count(3), n);
            Check.due("all of " + n + ": vertices", x.count(5), n);
            for (int v = 0; v < n; v++) {
                x.weigh(v, 0);
            }
            Check.due("the empty one of " + n, x.count(4), 0);
            Check.due("the empty one of " + n + ": weight", x.count(3), 0);
            Check.due("the empty one of " + n + ": most vertices", x.count(5), n);
            if (n > 2) {
                x.join(0, n - 1, false);
                Check.due("one pair less: most vertices", x.count(5), n - 1);
                x.weigh(n - 1, 9);
                Check.due("one pair less: the heaviest", x.count(4), 1 << (n - 1));
                x.weigh(1, 1);
                Check.due("one pair less: two", x.count(4), 2 + (1 << (n - 1)));
                Check.due("one pair less: with the vertex 0", x.vertex(0, 5), 1);
            }
        }
    }

    // "A coloring gives each vertex a color, 0, 1 and so on", "the one with the fewest colors": from one to eight
    private static void colorsOfAllNumbers() {
        for (int n = 1; n <= 8; n++) {
            CliqueLabels x = Check.graph(n, 1, "");
            Check.due("one color of " + n, x.count(6), 1);
            for (int v = 0; v < n; v++) {
                Check.due("one color: " + v + " of " + n, x.vertex(v, 4), 0);
            }
            x.complement();
            Check.due("all colors of " + n, x.count(6), n);
            for (int v = 0; v < n; v++) {
                Check.due("all colors: " + v + " of " + n, x.vertex(v, 4), v);
            }
            if (n > 1) {
                x.join(0, n - 1, false);
                Check.due("one color less of " + n, x.count(6), n - 1);
                Check.due("the last is colored as the first", x.vertex(n - 1, 4), 0);
            }
        }
    }

    // "(No clique has a weight above the bound.)": and some have just that weight
    private static void noCliqueIsAboveTheBound() {
        int reached = 0;
        for (int mask = 0; mask < 1024; mask++) {
            CliqueLabels x = Check.graph(5, 4, "");
            int bit = 0;
            for (int a = 0; a < 5; a++) {
                x.weigh(a, (mask + a * 3) % 4);
                for (int b = a + 1; b < 5; b++) {
                    x.join(a, b, (mask >> bit) % 2 == 1);
                    bit++;
                }
            }
            if (x.count(6) <= 4) {
                x.labelByColors();
                long excess = x.count(3) * x.bound(1) - x.bound(0);
                Check.due("a clique above the bound, graph " + mask, excess > 0 ? 1 : 0, 0);
                reached += excess == 0 ? 1 : 0;
            }
        }
        Check.due("the bound is reached at times", reached > 0 && reached < 1023 ? 1 : 0, 1);
    }

    private static void terms(int weight, int a, int b, int h, int g, long above, long below) {
        CliqueLabels x = Check.graph(1, 2, "");
        Check.labels(x, 0, a, b);
        Check.handle(x, h, g);
        x.weigh(0, weight);
        String what = weight + " times " + a + " " + b + " by " + h + " " + g;
        Check.due(what + ": above", x.bound(0), above);
        Check.due(what + ": below", x.bound(1), below);
    }

    // "It is told in lowest terms, 0 as 0 by 1."
    private static void lowestTerms() {
        terms(1, 1, 0, 1, 0, 1, 1);
        terms(1, 9, 9, 9, 9, 1, 1);
        terms(9, 9, 9, -9, -9, 9, 1);
        terms(1, 1, 0, 1, 1, 2, 1);
        terms(2, 2, 1, 1, 0, 5, 2);
        terms(3, 3, 1, 1, 0, 10, 3);
        terms(4, 2, 1, 1, 0, 5, 1);
        terms(9, 3, 0, 6, 6, 18, 1);
        terms(1, 1, 1, 1, 2, 10, 9);
        terms(9, 1, 1, 1, 2, 10, 1);
        terms(3, 1, 1, 1, 2, 10, 3);
        terms(6, 2, 2, 2, 4, 20, 3);
        terms(0, 9, 9, 9, 9, 0, 1);
        terms(0, 0, 0, 0, 0, 0, 1);
        terms(0, 1, 0, 0, 1, 0, 1);
        terms(1, 1, 0, 0, 1, -1, -1);
        terms(7, 9, 8, -8, 9, -1, -1);
        terms(7, 9, 8, -8, 8, 2030, 1);
        terms(7, 9, 8, -8, 7, 114695, 256);
    }

    /** Weights up to 3, and numbers from -3 to 3, that tell the vertices and places apart. */
    private static void fill(CliqueLabels x, int n, int d, int shift) {
        for (int v = 0; v < n; v++) {
            x.weigh(v, (v + shift) % 4);
            for (int place = 0; place < d; place++) {
                x.label(v, place, (3 * v + 5 * place + shift) % 7 - 3);
            }
        }
        for (int place = 0; place < d; place++) {
            x.hold(place, (2 * place + shift) % 7 - 3);
        }
    }

    // "has the vertices m * i + j", "their product at the place e * p + q": all sizes that are allowed
    private static void productsOfAllSizes() {
        for (int n = 1; n <= 8; n++) {
            for (int m = 1; n * m <= 8; m++) {
                for (int d = 1; d <= 4; d++) {
                    for (int e = 1; d * e <= 4; e++) {
                        product(n, m, d, e);
                    }
                }
            }
        }
    }

    private static void product(int n, int m, int d, int e) {
        CliqueLabels one = Check.graph(n, d, "");
        fill(one, n, d, 1);
        CliqueLabels other = Check.graph(m, e, "");
        fill(other, m, e, 2);
        CliqueLabels x = Check.graph(m, e, "");
        fill(x, m, e, 2);
        x.take(0);
        x.begin(n, d);
        fill(x, n, d, 1);
        String what = n + " by " + m + ", " + d + " by " + e;
        Check.due(what, x.multiply(0), n * m);
        for (int i = 0; i < n; i++) {
            for (int j = 0; j < m; j++) {
                int v = m * i + j;
                Check.due(what + ": weight " + v, x.vertex(v, 0), one.vertex(i, 0) * other.vertex(j, 0));
                for (int p = 0; p < d; p++) {
                    for (int q = 0; q < e; q++) {
                        Check.due(what + ": label " + v, x.vertex(v, 10 + e * p + q),
                            one.vertex(i, 10 + p) * other.vertex(j, 10 + q));
                    }
                }
            }
        }
        for (int p = 0; p < d; p++) {
            for (int q = 0; q < e; q++) {
                Check.due(what + ": handle", x.handle(e * p + q), one.handle(p) * other.handle(q));
            }
        }
    }

    private static String edgesOfProduct(int n, String first, int m, String second) {
        CliqueLabels x = Check.graph(m, 1, second);
        x.take(1);
        x.begin(n, 1);
        Check.type(x, first);
        if (!first.isEmpty()) {
            x.read();
        }
        x.multiply(1);
        return Check.edges(x);
    }

    // "two different ones of them are joined if those of the first graph are joined, or those of the second one are"
    private static void productsOfEdges() {
        String all = "01,02,03,04,05,06,07,12,13,14,15,16,17,23,24,25,26,27,34,35,36,37,45,46,47,56,57,67";
        Check.dueText("none by none", edgesOfProduct(2, "", 2, ""), "");
        Check.dueText("one by one vertex", edgesOfProduct(1, "", 1, ""), "");
        Check.dueText("joined by none", edgesOfProduct(2, "01", 2, ""), "02,03,12,13");
        Check.dueText("none by joined", edgesOfProduct(2, "", 2, "01"), "01,03,12,23");
        Check.dueText("joined by joined", edgesOfProduct(2, "01", 2, "01"), "01,02,03,12,13,23");
        Check.dueText("one by eight", edgesOfProduct(1, "", 8, "07,34"), "07,34");
        Check.dueText("eight by one", edgesOfProduct(8, "07,34", 1, ""), "07,34");
        Check.dueText("all of eight", edgesOfProduct(2, "01", 4, "01,02,03,12,13,23"), all);
        Check.dueText("four by two, none", edgesOfProduct(4, "", 2, ""), "");
        Check.dueText("four by two", edgesOfProduct(4, "03", 2, ""), "06,07,16,17");
        Check.dueText("three by two", edgesOfProduct(3, "", 2, "01"), "01,03,05,12,14,23,25,34,45");
    }

    private static void reason(String what, Start.Maker maker, int want) {
        Start start = new Start(what, maker);
        start.looks("whyNotMultiply", want, x -> x.whyNotMultiply(0));
        if (want == 0) {
            start.undoable("multiply", start.make().count(0), x -> Math.min(x.multiply(0), start.make().count(0)));
        } else {
            start.refused("multiply", Check.STATE, x -> x.multiply(0));
        }
    }

    private static CliqueLabels sizes(int n, int d, int m, int e) {
        CliqueLabels x = Check.graph(m, e, "");
        x.take(0);
        x.begin(n, d);
        return x;
    }

    // "1 there would be more than 8 vertices": 8 are not
    private static void reason1() {
        reason("8 by 1", () -> sizes(8, 1, 1, 1), 0);
        reason("1 by 8", () -> sizes(1, 1, 8, 1), 0);
        reason("4 by 2", () -> sizes(4, 1, 2, 1), 0);
        reason("2 by 4", () -> sizes(2, 1, 4, 1), 0);
        reason("3 by 3", () -> sizes(3, 1, 3, 1), 1);
        reason("5 by 2", () -> sizes(5, 1, 2, 1), 1);
        reason("2 by 5", () -> sizes(2, 1, 5, 1), 1);
        reason("8 by 8", () -> sizes(8, 1, 8, 1), 1);
    }

    // "2 the dimension would be above 4": 4 is not
    private static void reason2() {
        reason("4 places by 1", () -> sizes(1, 4, 1, 1), 0);
        reason("1 place by 4", () -> sizes(1, 1, 1, 4), 0);
        reason("2 places by 2", () -> sizes(1, 2, 1, 2), 0);
        reason("3 places by 2", () -> sizes(1, 3, 1, 2), 2);
        reason("2 places by 3", () -> sizes(1, 2, 1, 3), 2);
        reason("4 places by 4", () -> sizes(1, 4, 1, 4), 2);
    }

    private static CliqueLabels weights(int vertex, int weight, int other, int otherWeight) {
        CliqueLabels x = Check.graph(2, 1, "");
        x.weigh(other, otherWeight);
        x.take(0);
        x.begin(4, 1);
        x.weigh(vertex, weight);
        return x;
    }

    // "3 a weight would be above 9": 9 is not; the first and the last vertices
    private static void reason3() {
        int[][] allowed = {{9, 1}, {1, 9}, {3, 3}, {0, 9}, {9, 0}, {4, 2}};
        int[][] refused = {{5, 2}, {2, 5}, {9, 9}, {4, 3}};
        for (int end = 0; end <= 1; end++) {
            int v = 3 * end;
            int w = end;
            for (int[] pair : allowed) {
                reason("weights " + pair[0] + " " + pair[1], () -> weights(v, pair[0], w, pair[1]), 0);
            }
            for (int[] pair : refused) {
                reason("weights " + pair[0] + " " + pair[1], () -> weights(v, pair[0], w, pair[1]), 3);
            }
        }
    }

    private static CliqueLabels numbers(int vertex, int value, int other, int otherValue) {
        CliqueLabels x = Check.graph(2, 2, "");
        x.label(other, other, otherValue);
        x.take(0);
        x.begin(4, 2);
        x.label(vertex, 1, value);
        return x;
    }

    private static CliqueLabels handles(int place, int value, int otherValue) {
        CliqueLabels x = Check.graph(2, 2, "");
        x.hold(place, otherValue);
        x.take(0);
        x.begin(4, 2);
        x.hold(1, value);
        return x;
    }

    private static CliqueLabels mixed(int label, int otherHandle) {
        CliqueLabels x = Check.graph(1, 1, "");
        x.hold(0, otherHandle);
        x.take(0);
        x.begin(1, 1);
        x.label(0, 0, label);
        return x;
    }

    // "4 a number of a label or of the handle would be below -9 or above 9": 9 and -9 are not
    private static void reason4() {
        int[][] allowed = {{9, 1}, {1, 9}, {-9, 1}, {1, -9}, {-1, -9}, {3, 3}, {-3, 3}, {3, -3}, {0, 9}, {-9, 0}};
        int[][] refused = {{5, 2}, {2, 5}, {-5, 2}, {2, -5}, {-5, -2}, {9, 9}, {-9, 9}, {9, -9}, {-9, -9}};
        for (int end = 0; end <= 1; end++) {
            int v = 3 * end;
            int w = end;
            for (int[] pair : allowed) {
                reason("labels " + pair[0] + " " + pair[1], () -> numbers(v, pair[0], w, pair[1]), 0);
                reason("handles " + pair[0] + " " + pair[1], () -> handles(w, pair[0], pair[1]), 0);
            }
            for (int[] pair : refused) {
                reason("labels " + pair[0] + " " + pair[1], () -> numbers(v, pair[0], w, pair[1]), 4);
                reason("handles " + pair[0] + " " + pair[1], () -> handles(w, pair[0], pair[1]), 4);
                reason("a label and a handle", () -> mixed(pair[0], pair[1]), 0);
            }
        }
    }

    /** A product with just these reasons against it, told by bits. */
    private static CliqueLabels against(int reasons) {
        boolean many = (reasons & 1) != 0;
        boolean high = (reasons & 2) != 0;
        boolean heavy = (reasons & 4) != 0;
        boolean great = (reasons & 8) != 0;
        CliqueLabels x = Check.graph(many ? 3 : 2, high ? 3 : 2, "");
        x.weigh(1, heavy ? 5 : 3);
        x.hold(1, great ? -5 : -3);
        x.take(0);
        x.begin(many ? 3 : 4, 2);
        x.weigh(0, heavy ? 2 : 3);
        x.hold(0, great ? 2 : 3);
        return x;
    }

    // "What is refused is refused by the first of these reasons that applies"
    private static void theFirstReasonThatApplies() {
        for (int k = 0; k < 16; k++) {
            int reasons = k;
            int first = k == 0 ? 0 : Integer.numberOfTrailingZeros(k) + 1;
            reason("reasons " + k, () -> against(reasons), first);
        }
    }

    // "Each keeps the graph, weights, dimension, labels and handle."
    private static void snapshotsKeep() {
        Start.NEW.looks("no snapshot at first", 0, x -> x.count(10));
        for (int k = 0; k <= 1; k++) {
            CliqueLabels x = Start.SOME.make();
            String before = held(x);
            x.take(k);
            Check.dueText("take changes nothing else", held(x), before);
            x.begin(8, 4);
            x.complement();
            Check.due("restore " + k, x.restore(k), 5);
            Check.dueText("all is kept in " + k, held(x), before);
        }
    }

    private static String held(CliqueLabels x) {
        StringBuilder all = new StringBuilder();
        all.append(Check.edges(x)).append(";").append(Check.weights(x)).append(";").append(Check.handle(x));
        int n = x.count(0);
        for (int v = 0; v < n; v++) {
            all.append(";").append(Check.label(x, v));
        }
        return all.append(";").append(x.count(1)).append(";").append(x.count(9)).toString();
    }

    /** Six saved states, a snapshot of one vertex, and a row in the buffer. */
    private static CliqueLabels sixSaved() {
        CliqueLabels x = Check.graph(1, 1, "");
        x.label(0, 0, 1);
        x.take(0);
        x.begin(4, 2);
        Check.labels(x, 0, 2, 1);
        Check.labels(x, 3, -1, 3);
        Check.type(x, "01,23");
        return x;
    }

    /** No saved state, a snapshot of one vertex, and a row in the buffer. */
    private static CliqueLabels noneSaved() {
        CliqueLabels x = Check.graph(1, 1, "");
        x.label(0, 0, 1);
        x.take(0);
        x.undo();
        x.undo();
        Check.type(x, "01,23");
        return x;
    }

    private static final String[] UNDOABLE = {"begin", "join", "weigh", "complement", "remove", "multiply", "label",
        "hold", "labelByColors", "takeHandle", "read", "restore", "begin the same", "part", "weigh the same",
        "label the same", "hold the same", "takeHandle in vain"};

    private static long change(CliqueLabels x, int which) {
        switch (which) {
            case 0: return x.begin(8, 4);
            case 1: return x.join(0, 3, true);
            case 2: return x.weigh(3, 9);
            case 3: return x.complement();
            case 4: return x.remove(0);
            case 5: return x.multiply(0);
            case 6: return x.label(0, 1, 9);
            case 7: return x.hold(1, 9);
            case 8: return x.labelByColors();
            case 9: return x.takeHandle(1);
            case 10: return x.read();
            case 11: return x.restore(0);
            case 12: return x.begin(4, 2);
            case 13: return x.join(0, 3, false);
            case 14: return x.weigh(3, 1);
            case 15: return x.label(0, 1, 1);
            case 16: return x.hold(1, 0);
            default: return x.takeHandle(2);
        }
    }

    // "saves the state from before it (also if it changes nothing)", "At most 6 states are saved"
    private static void undoableCalls() {
        long[] want = {4, 1, 1, 6, 3, 4, 1, 0, 1, 0, 2, 1, 4, 0, 1, 1, 0, 0};
        Start six = new Start("six saved", () -> sixSaved());
        Start five = new Start("five saved", () -> {
            CliqueLabels x = sixSaved();
            x.weigh(0, 5);
            x.undo();
            return x;
        });
        for (int k = 0; k < UNDOABLE.length; k++) {
            int which = k;
            Start.Call notUndone = k == 10 ? y -> y.clearBuffer() : y -> 0;
            six.undoable(UNDOABLE[k], want[k], x -> change(x, which), notUndone);
            five.undoable(UNDOABLE[k], want[k], x -> change(x, which), notUndone);
        }
    }

    // "and does not throw an exception", "A call that throws an exception changes nothing."
    private static void refusedCallsSaveNothing() {
        Start six = new Start("six saved", () -> sixSaved());
        six.refused("begin", Check.ARGUMENT, x -> x.begin(9, 1));
        six.refused("join", Check.INDEX, x -> x.join(0, 4, true));
        six.refused("join with itself", Check.ARGUMENT, x -> x.join(3, 3, true));
        six.refused("weigh", Check.ARGUMENT, x -> x.weigh(0, 10));
        six.refused("remove", Check.INDEX, x -> x.remove(4));
        six.refused("multiply", Check.INDEX, x -> x.multiply(2));
        six.refused("multiply not taken", Check.STATE, x -> x.multiply(1));
        six.refused("label", Check.INDEX, x -> x.label(0, 2, 0));
        six.refused("label too great", Check.ARGUMENT, x -> x.label(0, 0, 10));
        six.refused("hold", Check.INDEX, x -> x.hold(2, 0));
        six.refused("hold too great", Check.ARGUMENT, x -> x.hold(0, -10));
        six.refused("takeHandle", Check.ARGUMENT, x -> x.takeHandle(3));
        six.refused("append", Check.ARGUMENT, x -> x.append(32));
        six.refused("take", Check.INDEX, x -> x.take(2));
        six.refused("restore", Check.INDEX, x -> x.restore(-1));
        six.refused("restore not taken", Check.STATE, x -> x.restore(1));
        Start colors = new Start("three colors", () -> {
            CliqueLabels x = sixSaved();
            x.complement();
            x.append(',');
            return x;
        });
        colors.refused("labelByColors", Check.STATE, x -> x.labelByColors());
        colors.refused("read", Check.ARGUMENT, x -> x.read());
    }

    // "all, also what is counted so far": products come back with undo, of whatever call
    private static void whatIsCountedIsUndone() {
        CliqueLabels x = Check.graph(1, 1, "");
        x.take(0);
        x.multiply(0);
        x.begin(2, 1);
        x.multiply(0);
        x.multiply(0);
        x.restore(0);
        Check.due("three products", x.count(9), 3);
        int[] want = {3, 2, 1, 1, 0, 0};
        for (int k = 0; k < want.length; k++) {
            x.undo();
            Check.due("products after undo " + k, x.count(9), want[k]);
        }
        x.multiply(0);
        Check.due("counted on from there", x.count(9), 1);
    }

    /** The first ones of twelve undoable calls, each of which changes something. */
    private static CliqueLabels changed(int calls) {
        int[] order = {1, 2, 6, 7, 10, 5, 9, 3, 4, 8, 11, 0};
        CliqueLabels x = noneSaved();
        for (int k = 0; k < calls; k++) {
            change(x, order[k]);
        }
        return x;
    }

    // "At most 6 states are saved; the oldest one is dropped first."
    private static void theOldestIsDroppedFirst() {
        for (int calls = 1; calls <= 12; calls++) {
            int saved = Math.min(6, calls);
            Check.due("saved after " + calls, changed(calls).count(11), saved);
            for (int back = 1; back <= saved; back++) {
                CliqueLabels x = changed(calls);
                for (int k = 1; k <= back; k++) {
                    Check.due("undo " + k + " of " + calls, x.undo(), saved - k);
                }
                Check.dueText(back + " of " + calls + " undone", held(x), held(changed(calls - back)));
                if (back == saved) {
                    Check.refused("undo beyond " + calls, x, Check.STATE, () -> x.undo());
                }
            }
        }
    }

    // The same at each place of a ring of six: undone by some, saved anew, dropped again
    private static void theRingGoesRound() {
        CliqueLabels x = new CliqueLabels();
        ArrayList<Integer> before = new ArrayList<>();
        for (int k = 0; k < 60; k++) {
            before.add(x.vertex(0, 0));
            x.weigh(0, k % 10);
            if (before.size() > 6) {
                before.remove(0);
            }
            for (int back = 0; back < k % 4 && k % 3 == 0; back++) {
                int want = before.remove(before.size() - 1);
                Check.due("undo in round " + k, x.undo(), before.size());
                Check.due("weight in round " + k, x.vertex(0, 0), want);
            }
            Check.due("saved in round " + k, x.count(11), before.size());
        }
    }

    // "If several exceptions apply, the one that is named first in the throws clause is thrown."
    private static void exceptionNamedFirst() {
        Start.refusedInAll("join", Check.INDEX, x -> x.join(-1, -1, true));
        Start.refusedInAll("weigh", Check.INDEX, x -> x.weigh(8, 10));
        Start.LEAST.refused("remove", Check.INDEX, x -> x.remove(-1));
        Start.NEW.refused("multiply", Check.INDEX, x -> x.multiply(2));
        Start.refusedInAll("label", Check.INDEX, x -> x.label(8, 4, 10));
        Start.refusedInAll("hold", Check.INDEX, x -> x.hold(4, 10));
        Start.FULL.refused("append", Check.ARGUMENT, x -> x.append(127));
        Start.NEW.refused("restore", Check.INDEX, x -> x.restore(2));
        Start.refusedInAll("vertex", Check.INDEX, x -> x.vertex(8, 14));
        Start.NEW.refused("whyNotMultiply", Check.INDEX, x -> x.whyNotMultiply(-1));
    }

    private static void objectsShareNothing() {
        CliqueLabels one = new CliqueLabels();
        long before = one.digest();
        CliqueLabels other = Start.FULL.make();
        other.multiply(1);
        other.restore(0);
        other.takeHandle(1);
        Check.due("another object changes nothing here", one.digest(), before);
        Check.refused("its snapshots are not here", one, Check.STATE, () -> one.restore(0));
        Check.refused("its saved states are not here", one, Check.STATE, () -> one.undo());
    }

    // "An object is used for at most 512 calls": the last of them answers as the first
    private static void the512thCall() {
        CliqueLabels x = new CliqueLabels();
        int before = 1;
        for (int call = 1; call <= 512; call++) {
            Check.due("call " + call, x.weigh(3, call % 10), before);
            before = call % 10;
        }
        CliqueLabels y = new CliqueLabels();
        for (int call = 1; call < 512; call++) {
            Check.dueText("call " + call, Check.answer(() -> y.undo()), "throws.IllegalStateException");
        }
        Check.due("the 512th call", y.digest(), new CliqueLabels().digest());
    }
}

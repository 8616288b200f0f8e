import java.math.BigInteger;

/** Promises 19 to 28 at their limits: each sentence that names one has a method of its own. */
public final class LookLimitsTest {
    private static final int[] PROPERTIES = {0, 1, 2, 3, 4, 5, 10, 11, 12, 13};
    private static final int[] BEST = {0, 1, 10, 11, 12, 13};
    /** All weights are 0, and the labels fit. */
    private static final Start WEIGHTLESS = new Start("weightless", () -> weightless());
    /** The product of handle and label is 1, where both are as long as can be for that. */
    private static final Start GREAT = new Start("a great bound", () -> great());

    public static void main(String[] args) {
        joinedAtTheEnds();
        joinedRefuses();
        propertiesOfTheLeast();
        propertiesOfTheGreatest();
        productsAtTheEnds();
        nothingBehindTheDimension();
        vertexRefuses();
        handleAtTheEnds();
        handleRefuses();
        boundWithoutWeights();
        boundOfOne();
        boundByTheLowest();
        boundComesAndGoes();
        boundRefuses();
        whyNotAtTheEnds();
        whyNotTheFirstPair();
        whyNotTheFirstVertex();
        whyNotRefuses();
        whyNotMultiplyRefuses();
        bestHandleNone();
        bestHandleOfBothSizes();
        bestHandleTheLeast();
        bestHandleRefuses();
        countAtTheEnds();
        countTheEmptyClique();
        countSnapshotsAndStates();
        countRefuses();
        nearnessAtTheEnds();
        digestAtTheEnds();
        digestOverflows();
        looksChangeNothing();
        Check.finish("LookLimitsTest");
    }

    private static CliqueLabels weightless() {
        CliqueLabels x = Check.graph(3, 2, "01");
        Check.weights(x, 0, 0, 0);
        x.label(2, 1, 4);
        return x;
    }

    private static CliqueLabels great() {
        CliqueLabels x = Check.graph(1, 4, "");
        Check.labels(x, 0, 9, -9, -7, 8);
        Check.handle(x, 9, 9, 9, 8);
        x.weigh(0, 9);
        return x;
    }

    // Promise 19: "Returns 1 if they are, otherwise 0 (also for the same one)."
    private static void joinedAtTheEnds() {
        Start.LEAST.looks("joined 0 0", 0, x -> x.joined(0, 0));
        Start.NEW.looks("joined 0 3", 0, x -> x.joined(0, 3));
        Start.FULL.looks("joined 0 7", 1, x -> x.joined(0, 7));
        Start.FULL.looks("joined 7 0", 1, x -> x.joined(7, 0));
        Start.FULL.looks("joined 6 7", 1, x -> x.joined(6, 7));
        for (int k = 0; k < 8; k++) {
            int v = k;
            Start.FULL.looks("joined with itself " + k, 0, x -> x.joined(v, v));
        }
    }

    // Promise 19: "IndexOutOfBoundsException if there is no such vertex"
    private static void joinedRefuses() {
        for (int wrong : Start.beyond(0, 7)) {
            Start.refusedInAll("joined 0 " + wrong, Check.INDEX, x -> x.joined(0, wrong));
            Start.refusedInAll("joined " + wrong + " 0", Check.INDEX, x -> x.joined(wrong, 0));
            Start.refusedInAll("joined twice " + wrong, Check.INDEX, x -> x.joined(wrong, wrong));
        }
        Start.refusedInAll("joined 0 n", Check.INDEX, x -> x.joined(0, x.count(0)));
        Start.refusedInAll("joined n 0", Check.INDEX, x -> x.joined(x.count(0), 0));
        Start.refusedInAll("joined n n", Check.INDEX, x -> x.joined(x.count(0), x.count(0)));
    }

    private static void properties(Start start, int vertex, int... want) {
        for (int k = 0; k < want.length; k++) {
            int what = PROPERTIES[k];
            start.looks("vertex " + vertex + " " + what, want[k], x -> x.vertex(vertex, what));
        }
    }

    // Promise 20, each property where it is least
    private static void propertiesOfTheLeast() {
        properties(Start.LEAST, 0, 1, 0, 0, 0, 0, 1, 0, 0, 0, 0);
        properties(WEIGHTLESS, 0, 0, 1, 0, 0, 0, 0, 0, 0, 0, 0);
        properties(WEIGHTLESS, 1, 0, 1, 0, 0, 1, 0, 0, 0, 0, 0);
        properties(WEIGHTLESS, 2, 0, 0, 16, 0, 0, 0, 0, 4, 0, 0);
        // cliques with the vertex that are not the heaviest one
        properties(Start.SOME, 0, 1, 1, 1, 1, 0, 2, 1, 0, 0, 0);
        properties(Start.SOME, 2, 1, 1, 1, 1, 0, 2, 1, 0, 0, 0);
        properties(Start.SOME, 3, 1, 1, 1, 1, 0, 4, 1, 0, 0, 0);
    }

    // Promise 20, each property where it is greatest: joined with seven, the color 7, a clique of the weight 72
    private static void propertiesOfTheGreatest() {
        properties(Start.FULL, 0, 9, 7, 243, -81, 0, 72, 9, -9, 9, 0);
        properties(Start.FULL, 7, 9, 7, 292, -144, 7, 72, 9, -9, 9, 7);
        properties(GREAT, 0, 9, 0, 275, 1, 0, 9, 9, -9, -7, 8);
    }

    // Promise 20, what 2 and 3: sums of four products, the greatest and the least
    private static void productsAtTheEnds() {
        CliqueLabels x = Check.graph(2, 4, "");
        Check.labels(x, 0, 9, 9, 9, 9);
        Check.labels(x, 1, -9, -9, -9, -9);
        Check.handle(x, 9, 9, 9, 9);
        Check.due("the greatest product with itself", x.vertex(0, 2), 324);
        Check.due("the greatest product with itself, below 0", x.vertex(1, 2), 324);
        Check.due("the greatest product with the handle", x.vertex(0, 3), 324);
        Check.due("the least product with the handle", x.vertex(1, 3), -324);
        Check.due("the greatest product of the handle", x.count(8), 324);
    }

    private static void nothingBehind(String what, CliqueLabels x) {
        int d = x.count(1);
        int n = x.count(0);
        for (int v = 0; v < n; v++) {
            for (int place = d; place < 4; place++) {
                Check.due(what + ": label " + v + " at " + place, x.vertex(v, 10 + place), 0);
            }
        }
        for (int place = d; place < 4; place++) {
            Check.due(what + ": best handle at " + place, x.bestHandle(1, 10 + place), 0);
        }
        for (int v = 0; v < n; v++) {
            int sum = 0;
            int held = 0;
            for (int place = 0; place < d; place++) {
                sum += x.vertex(v, 10 + place) * x.vertex(v, 10 + place);
                held += x.vertex(v, 10 + place) * x.handle(place);
            }
            Check.due(what + ": square of " + v, x.vertex(v, 2), sum);
            Check.due(what + ": held product of " + v, x.vertex(v, 3), held);
        }
    }

    // Promises 20 and 25: "(0 where the dimension is less)", also where there were more places before
    private static void nothingBehindTheDimension() {
        CliqueLabels begun = Start.FULL.make();
        begun.begin(2, 1);
        begun.label(1, 0, 3);
        begun.hold(0, 2);
        nothingBehind("begun", begun);
        CliqueLabels restored = Start.FULL.make();
        restored.restore(1);
        nothingBehind("restored", restored);
        CliqueLabels multiplied = Start.FULL.make();
        multiplied.restore(1);
        multiplied.multiply(1);
        nothingBehind("multiplied", multiplied);
        CliqueLabels undone = Start.LEAST.make();
        undone.begin(1, 4);
        Check.labels(undone, 0, 1, 2, 3, 4);
        undone.undo();
        undone.undo();
        undone.undo();
        undone.undo();
        undone.undo();
        nothingBehind("undone", undone);
        CliqueLabels colored = Check.graph(3, 2, "01");
        colored.labelByColors();
        colored.takeHandle(2);
        nothingBehind("colored", colored);
        CliqueLabels four = Check.graph(1, 4, "");
        four.label(0, 3, 9);
        Check.due("all four places", four.vertex(0, 13), 9);
        Check.due("the best handle at all four places", four.bestHandle(1, 13), -1);
    }

    // Promise 20: "if there is no such vertex" before "if what is not 0 to 5 or 10 to 13"
    private static void vertexRefuses() {
        for (int wrong : new int[] {-1, 6, 7, 8, 9, 14, 15, 32, 256, -10, Integer.MIN_VALUE, Integer.MAX_VALUE}) {
            Start.refusedInAll("vertex 0 " + wrong, Check.ARGUMENT, x -> x.vertex(0, wrong));
            Start.refusedInAll("vertex n " + wrong, Check.INDEX, x -> x.vertex(x.count(0), wrong));
            Start.refusedInAll("vertex -1 " + wrong, Check.INDEX, x -> x.vertex(-1, wrong));
        }
        for (int wrong : Start.beyond(0, 7)) {
            Start.refusedInAll("vertex " + wrong + " 0", Check.INDEX, x -> x.vertex(wrong, 0));
            Start.refusedInAll("vertex " + wrong + " 5", Check.INDEX, x -> x.vertex(wrong, 5));
            Start.refusedInAll("vertex " + wrong + " 13", Check.INDEX, x -> x.vertex(wrong, 13));
        }
        for (int what : PROPERTIES) {
            Start.refusedInAll("vertex n " + what, Check.INDEX, x -> x.vertex(x.count(0), what));
        }
    }

    // Promise 21: "place: 0 to d - 1"
    private static void handleAtTheEnds() {
        int[] want = {9, 9, -9, -9};
        for (int k = 0; k < 4; k++) {
            int place = k;
            Start.FULL.looks("handle " + k, want[k], x -> x.handle(place));
        }
        Start.LEAST.looks("handle 0", 0, x -> x.handle(0));
        Start.SOME.looks("handle 1", 1, x -> x.handle(1));
        Start.NEW.looks("handle 2", 0, x -> x.handle(2));
    }

    // Promise 21: "IndexOutOfBoundsException if there is no such place"
    private static void handleRefuses() {
        for (int wrong : Start.beyond(0, 3)) {
            Start.refusedInAll("handle " + wrong, Check.INDEX, x -> x.handle(wrong));
        }
        Start.refusedInAll("handle d", Check.INDEX, x -> x.handle(x.count(1)));
    }

    private static void bound(Start start, long above, long below, long teller) {
        start.looks("bound 0", above, x -> x.bound(0));
        start.looks("bound 1", below, x -> x.bound(1));
        start.looks("bound 2", teller, x -> x.bound(2));
    }

    // "(Without such vertices it is 0.)", "0 as 0 by 1", promise 22: "NONE without vertices with a weight above 0"
    private static void boundWithoutWeights() {
        bound(WEIGHTLESS, 0, 1, -1);
        bound(new Start("one without a weight", () -> {
            CliqueLabels x = Start.LEAST.make();
            x.weigh(0, 0);
            return x;
        }), 0, 1, -1);
        bound(new Start("without weights, the handle held", () -> {
            CliqueLabels x = weightless();
            Check.handle(x, 9, 9);
            return x;
        }), 0, 1, -1);
        bound(new Start("without weights, unfit", () -> {
            CliqueLabels x = weightless();
            x.label(0, 0, 1);
            x.label(1, 0, 1);
            return x;
        }), -1, -1, -1);
    }

    private static Start one(int weight, int label, int handle) {
        return new Start("one " + weight + " " + label + " " + handle, () -> {
            CliqueLabels x = Start.LEAST.make();
            x.weigh(0, weight);
            x.label(0, 0, label);
            x.hold(0, handle);
            return x;
        });
    }

    // "the product of the handle and the label of each vertex with a weight above 0 is not 0": 1 and -1 are not
    private static void boundOfOne() {
        bound(one(1, 1, 1), 1, 1, 0);
        bound(one(1, 1, -1), 1, 1, 0);
        bound(one(9, -9, 9), 9, 1, 0);
        bound(one(1, 0, 1), -1, -1, -1);
        bound(one(1, 1, 0), -1, -1, -1);
        bound(one(0, 0, 0), 0, 1, -1);
        bound(Start.LEAST, -1, -1, -1);
        bound(Start.NEW, -1, -1, -1);
        bound(Start.FULL, -1, -1, -1);
        bound(GREAT, 759825, 1, 0);
        bound(Start.SOME, 6, 1, 4);
    }

    // Promise 22: "of several the lowest one", and "in lowest terms": 5/4 and 20/16 are the same
    private static void boundByTheLowest() {
        bound(new Start("the same fraction", () -> {
            CliqueLabels x = Check.graph(8, 2, "");
            Check.weights(x, 0, 0, 1, 1, 1, 1, 1, 0);
            for (int v = 2; v <= 6; v++) {
                Check.labels(x, v, v - 1, v - 1);
            }
            Check.handle(x, 3, 1);
            return x;
        }), 5, 4, 2);
        bound(new Start("the last one is the greatest", () -> {
            CliqueLabels x = Check.graph(8, 1, "");
            for (int v = 0; v < 8; v++) {
                x.weigh(v, v < 7 ? 8 : 9);
                x.label(v, 0, -v - 1);
            }
            x.hold(0, 9);
            return x;
        }), 9, 1, 7);
    }

    private static void boundNow(String what, CliqueLabels x, long above, long below, long teller, long best) {
        Check.due(what + ": above", x.bound(0), above);
        Check.due(what + ": below", x.bound(1), below);
        Check.due(what + ": told by", x.bound(2), teller);
        Check.due(what + ": best handle", x.bestHandle(1, 10), best);
    }

    // "There is a bound if ..": each of the three cases behind each other one, in one object
    private static void boundComesAndGoes() {
        CliqueLabels x = Check.graph(2, 1, "");
        Check.labels(x, 0, 2);
        Check.labels(x, 1, -3);
        boundNow("the handle is 0", x, -1, -1, -1, -1);
        Check.handle(x, 4);
        x.weigh(1, 7);
        boundNow("a bound", x, 7, 1, 1, -1);
        x.join(0, 1, true);
        boundNow("unfit", x, -1, -1, -1, 0);
        x.join(0, 1, false);
        boundNow("a bound again", x, 7, 1, 1, -1);
        Check.weights(x, 0, 0);
        boundNow("no weights", x, 0, 1, -1, -1);
        x.weigh(0, 1);
        boundNow("by the other vertex", x, 1, 1, 0, -1);
        x.label(0, 0, 0);
        boundNow("a label 0", x, -1, -1, -1, 0);
        x.weigh(0, 0);
        boundNow("no weights, behind none", x, 0, 1, -1, -1);
        x.join(0, 1, true);
        x.label(0, 0, 1);
        boundNow("unfit without weights", x, -1, -1, -1, 0);
    }

    // Promise 22: "part: 0 to 2"
    private static void boundRefuses() {
        for (int wrong : Start.beyond(0, 2)) {
            Start.refusedInAll("bound " + wrong, Check.ARGUMENT, x -> x.bound(wrong));
            WEIGHTLESS.refused("bound " + wrong, Check.ARGUMENT, x -> x.bound(wrong));
            GREAT.refused("bound " + wrong, Check.ARGUMENT, x -> x.bound(wrong));
        }
    }

    private static void why(Start start, int reason, int first, int second) {
        start.looks("whyNot 0", reason, x -> x.whyNot(0));
        start.looks("whyNot 1", first, x -> x.whyNot(1));
        start.looks("whyNot 2", second, x -> x.whyNot(2));
    }

    // Promise 23: "0 if there is one", "NONE if there is no such vertex"
    private static void whyNotAtTheEnds() {
        why(WEIGHTLESS, 0, -1, -1);
        why(GREAT, 0, -1, -1);
        why(one(0, 0, 0), 0, -1, -1);
        why(one(1, 0, 0), 2, 0, -1);
        why(one(1, 9, 0), 2, 0, -1);
        why(Start.NEW, 2, 0, -1);
        why(Start.FULL, 1, 0, 1);
        why(Start.SOME, 0, -1, -1);
    }

    private static Start pairs(String edges) {
        return new Start("pairs " + edges, () -> {
            CliqueLabels x = Check.graph(8, 1, edges);
            for (int v = 0; v < 8; v++) {
                x.label(v, 0, 1);
            }
            return x;
        });
    }

    // Promise 23: "the first pair that does not fit (by the lower, then by the greater vertex)"
    private static void whyNotTheFirstPair() {
        why(pairs("67"), 1, 6, 7);
        why(pairs("67,07"), 1, 0, 7);
        why(pairs("12,07"), 1, 0, 7);
        why(pairs("07,06"), 1, 0, 6);
        why(pairs("01,12,23,34,45,56,67"), 1, 0, 1);
        why(pairs("57,56"), 1, 5, 6);
        why(pairs(""), 2, 0, -1);
        Start pair = new Start("a product of -1", () -> {
            CliqueLabels x = Check.graph(3, 2, "02,12");
            Check.labels(x, 0, 3, 4);
            Check.labels(x, 1, 1, 0);
            Check.labels(x, 2, -4, 3);
            Check.labels(x, 1, 2, 3);
            Check.handle(x, 1, 0);
            return x;
        });
        // 3 * -4 + 4 * 3 is 0, and 2 * -4 + 3 * 3 is 1
        why(pair, 1, 1, 2);
    }

    // Promise 23: "the first vertex with a weight above 0 whose product is 0"
    private static void whyNotTheFirstVertex() {
        why(new Start("the last one", () -> {
            CliqueLabels x = Check.graph(8, 1, "");
            x.hold(0, 1);
            for (int v = 0; v < 7; v++) {
                x.label(v, 0, v % 2 == 0 ? 1 : -1);
            }
            return x;
        }), 2, 7, -1);
        why(new Start("behind those without weight", () -> {
            CliqueLabels x = Check.graph(5, 1, "");
            Check.weights(x, 0, 0, 0, 1, 1);
            x.hold(0, 1);
            x.label(3, 0, 1);
            return x;
        }), 2, 4, -1);
        why(new Start("a pair comes before it", () -> {
            CliqueLabels x = Check.graph(3, 1, "12");
            x.label(1, 0, 1);
            x.label(2, 0, 1);
            return x;
        }), 1, 1, 2);
    }

    // Promise 23: "IllegalArgumentException if what is not 0 to 2"
    private static void whyNotRefuses() {
        for (int wrong : Start.beyond(0, 2)) {
            Start.refusedInAll("whyNot " + wrong, Check.ARGUMENT, x -> x.whyNot(wrong));
            WEIGHTLESS.refused("whyNot " + wrong, Check.ARGUMENT, x -> x.whyNot(wrong));
        }
    }

    // Promise 24: "if there is no such snapshot" before "if it was not taken"; the reasons stand in TermLimitsTest
    private static void whyNotMultiplyRefuses() {
        for (int wrong : Start.beyond(0, 1)) {
            Start.refusedInAll("whyNotMultiply " + wrong, Check.INDEX, x -> x.whyNotMultiply(wrong));
        }
        Start.LEAST.refused("whyNotMultiply 0 not taken", Check.STATE, x -> x.whyNotMultiply(0));
        Start.LEAST.refused("whyNotMultiply 1 not taken", Check.STATE, x -> x.whyNotMultiply(1));
        Start.SOME.refused("whyNotMultiply 1 not taken, 0 is", Check.STATE, x -> x.whyNotMultiply(1));
        Start.SOME.looks("whyNotMultiply 0", 1, x -> x.whyNotMultiply(0));
        Start.FULL.looks("whyNotMultiply 1", 0, x -> x.whyNotMultiply(1));
    }

    private static void best(Start start, int size, long... want) {
        for (int k = 0; k < want.length; k++) {
            int what = BEST[k];
            start.looks("bestHandle " + size + " " + what, want[k], x -> x.bestHandle(size, what));
        }
    }

    // Promise 25: "NONE (for 0 and 1), or 0 (for 10 to 13) if there is no bound by any of them"
    private static void bestHandleNone() {
        for (int size = 1; size <= 2; size++) {
            best(Start.NEW, size, -1, -1, 0, 0, 0, 0);
            best(Start.LEAST, size, -1, -1, 0, 0, 0, 0);
            best(Start.FULL, size, -1, -1, 0, 0, 0, 0);
            best(pairs("67"), size, -1, -1, 0, 0, 0, 0);
        }
    }

    // Promise 25: "size: 1 or 2: all of its numbers are from -size to size"
    private static void bestHandleOfBothSizes() {
        Start star = new Start("star", () -> {
            CliqueLabels x = Check.graph(4, 2, "");
            Check.labels(x, 0, 1, 1);
            Check.labels(x, 1, 1, -1);
            Check.labels(x, 2, 1, 0);
            Check.labels(x, 3, 0, 1);
            return x;
        });
        best(star, 1, -1, -1, 0, 0, 0, 0);
        best(star, 2, 10, 1, -2, -1, 0, 0);
        Start far = new Start("far", () -> {
            CliqueLabels x = Check.graph(1, 2, "");
            Check.labels(x, 0, 9, 3);
            return x;
        });
        // with the numbers 3 and 1 it would be 1
        best(far, 1, 10, 9, -1, 0, 0, 0);
        best(far, 2, 50, 49, -2, -1, 0, 0);
        best(one(9, 9, 0), 1, 9, 1, -1, 0, 0, 0);
        best(one(9, 9, 0), 2, 9, 1, -2, 0, 0, 0);
        best(GREAT, 1, 100, 11, -1, 1, 1, -1);
    }

    // Promise 25: "the one with the least number at the place 0, of these at the place 1, and so on"
    private static void bestHandleTheLeast() {
        best(WEIGHTLESS, 1, 0, 1, -1, -1, 0, 0);
        best(WEIGHTLESS, 2, 0, 1, -2, -2, 0, 0);
        best(new Start("four places without weights", () -> {
            CliqueLabels x = Check.graph(1, 4, "");
            x.weigh(0, 0);
            return x;
        }), 2, 0, 1, -2, -2, -2, -2);
        for (int place = 0; place < 4; place++) {
            int at = place;
            long[] want = {1, 1, 0, 0, 0, 0};
            want[2 + place] = -1;
            best(new Start("an axis " + place, () -> {
                CliqueLabels x = Check.graph(1, 4, "");
                x.label(0, at, 7);
                return x;
            }), 1, want);
        }
        best(new Start("two axes, unlike signs", () -> {
            CliqueLabels x = Check.graph(2, 2, "01");
            Check.labels(x, 0, 0, -3);
            Check.labels(x, 1, 5, 0);
            return x;
        }), 1, 2, 1, -1, -1, 0, 0);
    }

    // Promise 25: "IllegalArgumentException if size or what is out of range"
    private static void bestHandleRefuses() {
        for (int wrong : Start.beyond(1, 2)) {
            for (int what : BEST) {
                Start.refusedInAll("bestHandle " + wrong + " " + what, Check.ARGUMENT, x -> x.bestHandle(wrong, what));
            }
            WEIGHTLESS.refused("bestHandle " + wrong + " 0", Check.ARGUMENT, x -> x.bestHandle(wrong, 0));
        }
        for (int wrong : new int[] {-1, 2, 3, 5, 9, 14, 15, 256, -10, Integer.MIN_VALUE, Integer.MAX_VALUE}) {
            Start.refusedInAll("bestHandle 1 " + wrong, Check.ARGUMENT, x -> x.bestHandle(1, wrong));
            Start.refusedInAll("bestHandle 2 " + wrong, Check.ARGUMENT, x -> x.bestHandle(2, wrong));
            WEIGHTLESS.refused("bestHandle 2 " + wrong, Check.ARGUMENT, x -> x.bestHandle(2, wrong));
        }
        Start.refusedInAll("bestHandle 0 2", Check.ARGUMENT, x -> x.bestHandle(0, 2));
    }

    private static void counts(Start start, int... want) {
        for (int k = 0; k < want.length; k++) {
            int what = k;
            start.looks("count " + k, want[k], x -> x.count(what));
        }
    }

    // Promise 26, each number where it is least and where it is greatest
    private static void countAtTheEnds() {
        counts(Start.LEAST, 1, 1, 0, 1, 1, 1, 1, 0, 0, 0, 0, 1);
        counts(Start.SOME, 5, 2, 3, 4, 24, 2, 2, 0, 2, 0, 1, 4);
        counts(Start.FULL, 8, 4, 28, 72, 255, 8, 8, 28, 324, 1, 2, 6);
        counts(pairs(""), 8, 1, 0, 1, 1, 1, 1, 0, 0, 0, 0, 6);
        counts(pairs("67"), 8, 1, 1, 2, 192, 2, 2, 1, 0, 0, 0, 6);
    }

    // "A clique is a set of vertices, perhaps empty": without weights it is the lowest one of the weight 0
    private static void countTheEmptyClique() {
        counts(WEIGHTLESS, 3, 2, 1, 0, 0, 2, 2, 0, 0, 0, 0, 6);
        counts(one(0, 1, 1), 1, 1, 0, 0, 0, 1, 1, 0, 1, 0, 0, 4);
        Start last = new Start("one weight at the end", () -> {
            CliqueLabels x = Start.FULL.make();
            Check.weights(x, 0, 0, 0, 0, 0, 0, 0, 1);
            return x;
        });
        last.looks("count 3", 1, x -> x.count(3));
        last.looks("count 4, the lowest one", 128, x -> x.count(4));
        last.looks("count 5", 8, x -> x.count(5));
        last.looks("vertex 0 5", 1, x -> x.vertex(0, 5));
    }

    // Promise 26, 9 to 11: from 0 on, and up to 2 snapshots and 6 saved states
    private static void countSnapshotsAndStates() {
        CliqueLabels x = Start.LEAST.make();
        x.take(0);
        for (int k = 1; k <= 20; k++) {
            x.multiply(0);
            Check.due("products " + k, x.count(9), k);
            Check.due("saved " + k, x.count(11), Math.min(6, k + 1));
            Check.due("taken " + k, x.count(10), k < 4 ? 1 : 2);
            x.take(k < 2 ? 0 : k % 2);
        }
        for (int k = 19; k >= 14; k--) {
            x.undo();
            Check.due("products after undo " + k, x.count(9), k);
        }
        Check.due("taken after undo", x.count(10), 2);
        Check.due("nothing is saved", x.count(11), 0);
        Check.refused("multiply with no such snapshot counts nothing", x, Check.INDEX, () -> x.multiply(2));
        Check.due("products after the refusal", x.count(9), 14);
    }

    // Promise 26: "IllegalArgumentException if what is not 0 to 11"
    private static void countRefuses() {
        for (int wrong : Start.beyond(0, 11)) {
            Start.refusedInAll("count " + wrong, Check.ARGUMENT, x -> x.count(wrong));
        }
    }

    private static void near(Start start, double want) {
        start.looks("nearness", Double.doubleToLongBits(want), x -> Double.doubleToLongBits(x.nearness()));
        CliqueLabels x = start.make();
        Check.due("digest with the nearness " + want, x.digest(), hashOf(x, "").longValue());
    }

    // Promise 27: "0.0 if there is no bound, or it is 0"; the most is 1.0
    private static void nearnessAtTheEnds() {
        near(WEIGHTLESS, 0.0);
        near(one(1, 0, 0), 0.0);
        near(one(0, 0, 0), 0.0);
        near(one(0, 1, 1), 0.0);
        near(pairs("67"), 0.0);
        near(one(1, 1, 1), 1.0);
        near(one(9, -9, 9), 1.0);
        near(GREAT, 9.0 * 1.0 / 759825.0);
        near(new Start("just below 1", () -> {
            CliqueLabels x = Check.graph(1, 2, "");
            Check.labels(x, 0, 8, 7);
            Check.handle(x, 9, 8);
            return x;
        }), 16384.0 / 16385.0);
        Start.SOME.looks("nearness", Double.doubleToLongBits(4.0 / 6.0), x -> Double.doubleToLongBits(x.nearness()));
        Start.FULL.looks("nearness", 0, x -> Double.doubleToLongBits(x.nearness()));
    }

    /** The hash without any overflow, of the answers of all other calls. */
    private static BigInteger hashOf(CliqueLabels x, String buffer) {
        BigInteger hash = BigInteger.valueOf(2521);
        int n = x.count(0);
        int d = x.count(1);
        for (int what = 0; what <= 11; what++) {
            hash = next(hash, x.count(what));
        }
        for (int v = 0; v < n; v++) {
            for (int what : PROPERTIES) {
                hash = next(hash, x.vertex(v, what));
            }
            for (int other = 0; other < n; other++) {
                hash = next(hash, x.joined(v, other));
            }
        }
        for (int place = 0; place < d; place++) {
            hash = next(hash, x.handle(place));
        }
        for (int part = 0; part <= 2; part++) {
            hash = next(hash, x.bound(part));
        }
        for (int what = 0; what <= 2; what++) {
            hash = next(hash, x.whyNot(what));
        }
        for (int what : BEST) {
            hash = next(hash, x.bestHandle(1, what));
        }
        hash = next(hash, Double.doubleToLongBits(x.nearness()));
        hash = next(hash, buffer.length());
        for (int k = 0; k < buffer.length(); k++) {
            hash = next(hash, buffer.charAt(k));
        }
        return hash;
    }

    private static BigInteger next(BigInteger hash, long value) {
        return hash.multiply(BigInteger.valueOf(31)).add(BigInteger.valueOf(value));
    }

    // Promise 28, the whole list: one vertex and eight, no character and 60
    private static void digestAtTheEnds() {
        CliqueLabels least = Start.LEAST.make();
        Start.LEAST.looks("digest", hashOf(least, "").longValue(), x -> x.digest());
        CliqueLabels fresh = Start.NEW.make();
        Start.NEW.looks("digest", hashOf(fresh, "").longValue(), x -> x.digest());
        CliqueLabels some = Start.SOME.make();
        Start.SOME.looks("digest", hashOf(some, "01,1").longValue(), x -> x.digest());
        CliqueLabels full = Start.FULL.make();
        Start.FULL.looks("digest", hashOf(full, Start.ROW_OF_59 + ",").longValue(), x -> x.digest());
        for (String text : new String[] {"!", "~", "~~", "!~"}) {
            CliqueLabels x = Start.LEAST.make();
            Check.type(x, text);
            Check.due("digest with " + text, x.digest(), hashOf(x, text).longValue());
        }
    }

    // Promise 28: "in long arithmetic with overflow"
    private static void digestOverflows() {
        CliqueLabels x = Start.LEAST.make();
        BigInteger hash = hashOf(x, "");
        Check.due("the hash is beyond a long", hash.bitLength() > 64 ? 1 : 0, 1);
        Check.due("it wraps around", x.digest(), hash.mod(BigInteger.TWO.pow(64)).longValue());
    }

    // "looks; nothing is changed": each of them, with each argument, where most is held
    private static void looksChangeNothing() {
        for (int k = -1; k <= 14; k++) {
            int what = k;
            for (int other = -1; other <= 8; other++) {
                int v = other;
                unchanged("vertex " + v + " " + k, x -> x.vertex(v, what));
                unchanged("joined " + v + " " + k, x -> x.joined(v, what));
            }
            unchanged("handle " + k, x -> x.handle(what));
            unchanged("bound " + k, x -> x.bound(what));
            unchanged("whyNot " + k, x -> x.whyNot(what));
            unchanged("whyNotMultiply " + k, x -> x.whyNotMultiply(what));
            unchanged("bestHandle 1 " + k, x -> x.bestHandle(1, what));
            unchanged("bestHandle 2 " + k, x -> x.bestHandle(2, what));
            unchanged("count " + k, x -> x.count(what));
        }
        unchanged("nearness", x -> (long) x.nearness());
        unchanged("digest", x -> x.digest());
        unchanged("firstError", x -> x.firstError());
    }

    private static void unchanged(String what, Start.Call call) {
        for (Start start : new Start[] {Start.SOME, Start.FULL}) {
            start.looks(what, 0, x -> {
                Check.answer(() -> call.on(x));
                return 0;
            });
        }
    }
}

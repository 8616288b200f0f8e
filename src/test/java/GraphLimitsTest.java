/** Promises 1 to 7 at their limits: each sentence that names one has a method of its own. */
public final class GraphLimitsTest {
    public static void main(String[] args) {
        aNewObject();
        aNewObjectRefuses();
        beginAllSizes();
        beginLeaves();
        beginRefuses();
        joinAtTheEnds();
        joinAllAndPartAll();
        joinChangesNothing();
        joinRefuses();
        weighAtTheEnds();
        weighRefuses();
        complementAtTheEnds();
        removeDownToOne();
        removeAtTheEnds();
        removeLeavesNoTrace();
        removeRefuses();
        multiplyToTheMost();
        multiplyByOne();
        multiplyRefuses();
        Check.finish("GraphLimitsTest");
    }

    // Promise 1: "Creates a graph of 4 vertices without edges, as told, with an empty buffer."
    private static void aNewObject() {
        Start.NEW.looks("NONE", -1, x -> CliqueLabels.NONE);
        int[] counts = {4, 3, 0, 1, 1, 1, 1, 0, 0, 0, 0, 0};
        for (int k = 0; k < counts.length; k++) {
            int what = k;
            Start.NEW.looks("count " + what, counts[what], x -> x.count(what));
        }
        int[] properties = {1, 0, 0, 0, 0, 1};
        for (int k = 0; k < 4; k++) {
            int v = k;
            for (int p = 0; p <= 13; p = p == 5 ? 10 : p + 1) {
                int what = p;
                Start.NEW.looks("vertex " + v + " " + p, p < 6 ? properties[p] : 0, x -> x.vertex(v, what));
            }
            for (int other = 0; other < 4; other++) {
                int w = other;
                Start.NEW.looks("joined " + v + " " + w, 0, x -> x.joined(v, w));
            }
        }
        for (int k = 0; k < 3; k++) {
            int number = k;
            Start.NEW.looks("handle " + k, 0, x -> x.handle(number));
            Start.NEW.looks("bound " + k, -1, x -> x.bound(number));
            Start.NEW.looks("whyNot " + k, k == 0 ? 2 : k == 1 ? 0 : -1, x -> x.whyNot(number));
        }
        Start.NEW.looks("nearness", 0, x -> Double.doubleToLongBits(x.nearness()));
        Start.NEW.looks("firstError", 0, x -> x.firstError());
        Start.NEW.looks("clearBuffer", 0, x -> x.clearBuffer());
    }

    // Promise 1, what is empty: no saved state, no snapshot, no row to read, no vertex 4, no place 3.
    private static void aNewObjectRefuses() {
        Start.NEW.refused("undo", Check.STATE, x -> x.undo());
        Start.NEW.refused("read", Check.ARGUMENT, x -> x.read());
        for (int k = 0; k <= 1; k++) {
            int number = k;
            Start.NEW.refused("restore " + k, Check.STATE, x -> x.restore(number));
            Start.NEW.refused("multiply " + k, Check.STATE, x -> x.multiply(number));
            Start.NEW.refused("whyNotMultiply " + k, Check.STATE, x -> x.whyNotMultiply(number));
        }
        Start.NEW.refused("vertex 4", Check.INDEX, x -> x.vertex(4, 0));
        Start.NEW.refused("place 3", Check.INDEX, x -> x.handle(3));
    }

    // Promise 2: "n: 1 to 8", "d: the dimension, 1 to 4", "Returns the previous number of vertices."
    private static void beginAllSizes() {
        for (int n = 1; n <= 8; n++) {
            for (int d = 1; d <= 4; d++) {
                int size = n;
                int places = d;
                String what = "begin " + n + " " + d;
                Start.NEW.undoable(what, 4, x -> x.begin(size, places));
                Start.LEAST.undoable(what, 1, x -> x.begin(size, places));
                Start.SOME.undoable(what, 5, x -> x.begin(size, places));
                Start.FULL.undoable(what, 8, x -> x.begin(size, places));
                begun(what, n, d);
            }
        }
    }

    // Promise 2: "Begins a graph without edges, with weights 1, labels and handle 0."
    private static void begun(String what, int n, int d) {
        CliqueLabels x = Start.FULL.make();
        x.begin(n, d);
        Check.due(what + ": n", x.count(0), n);
        Check.due(what + ": d", x.count(1), d);
        Check.dueText(what + ": edges", Check.edges(x), "");
        Check.dueText(what + ": weights", Check.weights(x), "1 1 1 1 1 1 1 1".substring(0, 2 * n - 1));
        Check.dueText(what + ": handle", Check.handle(x), "0 0 0 0".substring(0, 2 * d - 1));
        for (int v = 0; v < n; v++) {
            Check.dueText(what + ": label", Check.label(x, v), "0 0 0 0");
        }
        Check.refused(what + ": the first vertex beyond", x, Check.INDEX, () -> x.vertex(n, 0));
        Check.refused(what + ": the first place beyond", x, Check.INDEX, () -> x.handle(d));
        Check.due(what + ": the last vertex", x.weigh(n - 1, 9), 1);
        Check.due(what + ": the last place", x.label(n - 1, d - 1, 9), 0);
    }

    // Promise 2 names the graph, weights, labels and handle: buffer, snapshots and what is counted stay.
    private static void beginLeaves() {
        CliqueLabels x = Start.FULL.make();
        x.begin(1, 1);
        Check.due("begin leaves the products", x.count(9), 1);
        Check.due("begin leaves the snapshots", x.count(10), 2);
        Check.due("begin leaves the buffer", x.clearBuffer(), 60);
        Check.due("begin leaves snapshot 0", x.restore(0), 8);
        Check.due("begin leaves the edges of snapshot 0", x.count(2), 28);
    }

    // Promise 2: "IllegalArgumentException if an argument is out of range"
    private static void beginRefuses() {
        for (int wrong : Start.beyond(1, 8)) {
            Start.refusedInAll("begin " + wrong + " 1", Check.ARGUMENT, x -> x.begin(wrong, 1));
            Start.refusedInAll("begin " + wrong + " 4", Check.ARGUMENT, x -> x.begin(wrong, 4));
        }
        for (int wrong : Start.beyond(1, 4)) {
            Start.refusedInAll("begin 1 " + wrong, Check.ARGUMENT, x -> x.begin(1, wrong));
            Start.refusedInAll("begin 8 " + wrong, Check.ARGUMENT, x -> x.begin(8, wrong));
        }
        Start.refusedInAll("begin 0 0", Check.ARGUMENT, x -> x.begin(0, 0));
        Start.refusedInAll("begin 9 5", Check.ARGUMENT, x -> x.begin(9, 5));
    }

    // Promise 3: the least and the greatest vertex, both ways round; "Returns how many edges there are then."
    private static void joinAtTheEnds() {
        for (int n = 2; n <= 8; n++) {
            int last = n - 1;
            int size = n;
            Start start = new Start("empty " + n, () -> Check.graph(size, 1, ""));
            start.undoable("join 0 " + last, 1, x -> x.join(0, last, true));
            start.undoable("join " + last + " 0", 1, x -> x.join(last, 0, true));
            CliqueLabels x = start.make();
            x.join(last, 0, true);
            Check.dueText("joined " + last + " 0 of " + n, Check.edges(x), "0" + last);
            Check.due("joined 0 " + last + " of " + n, x.joined(0, last), 1);
            Check.due("part 0 " + last + " of " + n, x.join(0, last, false), 0);
            Check.dueText("parted 0 " + last + " of " + n, Check.edges(x), "");
        }
    }

    // Promise 3, what is full and what is empty: 28 edges at most, one less with each that is parted.
    private static void joinAllAndPartAll() {
        CliqueLabels x = Check.graph(8, 1, "");
        int edges = 0;
        for (int a = 0; a < 8; a++) {
            for (int b = a + 1; b < 8; b++) {
                edges++;
                Check.due("join " + a + " " + b, x.join(b, a, true), edges);
            }
        }
        Check.due("all are joined", edges, 28);
        Check.due("join, all are joined", x.join(3, 4, true), 28);
        for (int a = 0; a < 8; a++) {
            for (int b = a + 1; b < 8; b++) {
                edges--;
                Check.due("part " + a + " " + b, x.join(a, b, false), edges);
            }
        }
        Check.due("part, none are joined", x.join(3, 4, false), 0);
        Check.dueText("none are joined", Check.edges(x), "");
    }

    // Promise 3, "whether they are joined then": what is so already stays, and is saved all the same.
    private static void joinChangesNothing() {
        Start.FULL.undoable("join what is joined", 28, x -> x.join(0, 7, true));
        Start.FULL.undoable("join what is joined, the other way", 28, x -> x.join(7, 6, true));
        Start.NEW.undoable("part what is not joined", 0, x -> x.join(0, 3, false));
        Start.NEW.undoable("part what is not joined, the other way", 0, x -> x.join(3, 2, false));
        Start.SOME.undoable("join", 4, x -> x.join(4, 0, true));
        Start.SOME.undoable("part", 2, x -> x.join(4, 3, false));
    }

    // Promise 3: "if there is no such vertex" before "if both are the same"
    private static void joinRefuses() {
        for (int wrong : Start.beyond(0, 7)) {
            Start.refusedInAll("join " + wrong + " 0", Check.INDEX, x -> x.join(wrong, 0, true));
            Start.refusedInAll("join 0 " + wrong, Check.INDEX, x -> x.join(0, wrong, false));
            Start.refusedInAll("join twice " + wrong, Check.INDEX, x -> x.join(wrong, wrong, true));
        }
        Start.refusedInAll("join n 0", Check.INDEX, x -> x.join(x.count(0), 0, true));
        Start.refusedInAll("join 0 n", Check.INDEX, x -> x.join(0, x.count(0), true));
        Start.refusedInAll("join n n", Check.INDEX, x -> x.join(x.count(0), x.count(0), false));
        Start.refusedInAll("join 0 0", Check.ARGUMENT, x -> x.join(0, 0, true));
        Start.refusedInAll("part 0 0", Check.ARGUMENT, x -> x.join(0, 0, false));
        Start.refusedInAll("join the last with itself", Check.ARGUMENT,
            x -> x.join(x.count(0) - 1, x.count(0) - 1, true));
    }

    // Promise 4: "weight: 0 to 9", "Returns the previous weight."
    private static void weighAtTheEnds() {
        for (int k = 0; k <= 9; k++) {
            int weight = k;
            Start.NEW.undoable("weigh the first " + k, 1, x -> x.weigh(0, weight));
            Start.NEW.undoable("weigh the last " + k, 1, x -> x.weigh(3, weight));
            Start.LEAST.undoable("weigh the only one " + k, 1, x -> x.weigh(0, weight));
            Start.FULL.undoable("weigh " + k, 9, x -> x.weigh(7, weight));
            CliqueLabels x = Start.FULL.make();
            x.weigh(0, weight);
            x.weigh(7, 9 - weight);
            Check.dueText("weights " + k, Check.weights(x), weight + " 9 9 9 9 9 9 " + (9 - weight));
            Check.due("the weight returned " + k, x.weigh(0, 0), weight);
        }
    }

    // Promise 4: "if there is no such vertex" before "if weight is out of range"
    private static void weighRefuses() {
        for (int wrong : Start.beyond(0, 9)) {
            Start.refusedInAll("weigh 0 " + wrong, Check.ARGUMENT, x -> x.weigh(0, wrong));
            Start.refusedInAll("weigh the last " + wrong, Check.ARGUMENT, x -> x.weigh(x.count(0) - 1, wrong));
            Start.refusedInAll("weigh n " + wrong, Check.INDEX, x -> x.weigh(x.count(0), wrong));
            Start.refusedInAll("weigh -1 " + wrong, Check.INDEX, x -> x.weigh(-1, wrong));
        }
        for (int wrong : Start.beyond(0, 7)) {
            Start.refusedInAll("weigh " + wrong + " 0", Check.INDEX, x -> x.weigh(wrong, 0));
            Start.refusedInAll("weigh " + wrong + " 9", Check.INDEX, x -> x.weigh(wrong, 9));
        }
        Start.refusedInAll("weigh n 1", Check.INDEX, x -> x.weigh(x.count(0), 1));
    }

    // Promise 5: "Joins all pairs that are not joined, and parts all others."
    private static void complementAtTheEnds() {
        Start.LEAST.undoable("complement of one", 0, x -> x.complement());
        Start.NEW.undoable("complement of none", 6, x -> x.complement());
        Start.SOME.undoable("complement of some", 7, x -> x.complement());
        Start.FULL.undoable("complement of all", 0, x -> x.complement());
        for (int n = 1; n <= 8; n++) {
            CliqueLabels x = Check.graph(n, 1, "");
            Check.due("complement of " + n, x.complement(), n * (n - 1) / 2);
            for (int v = 0; v < n; v++) {
                Check.due("no vertex is joined with itself: " + v + " of " + n, x.joined(v, v), 0);
                Check.due("joined with all others: " + v + " of " + n, x.vertex(v, 1), n - 1);
            }
            Check.due("complement of all " + n, x.complement(), 0);
            Check.due("complement of each saves", x.count(11), 3);
            Check.dueText("complement of all " + n + ": edges", Check.edges(x), "");
        }
        CliqueLabels x = Start.SOME.make();
        x.complement();
        Check.dueText("complement of some: edges", Check.edges(x), "02,03,04,13,14,23,24");
        Check.dueText("complement leaves the weights", Check.weights(x), "1 1 1 1 3");
        Check.dueText("complement leaves the labels", Check.label(x, 1), "0 1 0 0");
        Check.dueText("complement leaves the handle", Check.handle(x), "1 1");
        Check.due("complement leaves the buffer", x.clearBuffer(), 4);
    }

    // Promise 6: "Returns how many vertices are left.", "if it is the only one"
    private static void removeDownToOne() {
        for (int end = 0; end <= 1; end++) {
            CliqueLabels x = Start.FULL.make();
            for (int left = 7; left >= 1; left--) {
                int last = left;
                Check.refused("remove the first beyond", x, Check.INDEX, () -> x.remove(last + 1));
                Check.due("remove to " + left, x.remove(end == 0 ? 0 : left), left);
                Check.due("edges of " + left, x.count(2), left * (left - 1) / 2);
                Check.due("vertices of " + left, x.count(0), left);
                Check.due("saved", x.count(11), 6);
            }
            Check.dueText("the one that is left", Check.label(x, 0), end == 0 ? "9 -9 9 7" : "9 -9 9 0");
            Check.refused("remove the only one", x, Check.STATE, () -> x.remove(0));
        }
    }

    // Promise 6: "those behind it have numbers that are less by 1": none behind the last, all behind the first
    private static void removeAtTheEnds() {
        Start.NEW.undoable("remove the first", 3, x -> x.remove(0));
        Start.NEW.undoable("remove the last", 3, x -> x.remove(3));
        Start.SOME.undoable("remove the first", 4, x -> x.remove(0));
        Start.SOME.undoable("remove the last", 4, x -> x.remove(4));
        Start.FULL.undoable("remove the first", 7, x -> x.remove(0));
        Start.FULL.undoable("remove the last", 7, x -> x.remove(7));
        CliqueLabels first = Start.SOME.make();
        first.remove(0);
        Check.dueText("without the first: edges", Check.edges(first), "01,23");
        Check.dueText("without the first: weights", Check.weights(first), "1 1 1 3");
        Check.dueText("without the first: label 0", Check.label(first, 0), "0 1 0 0");
        Check.dueText("without the first: label 3", Check.label(first, 3), "0 1 0 0");
        CliqueLabels last = Start.SOME.make();
        last.remove(4);
        Check.dueText("without the last: edges", Check.edges(last), "01,12");
        Check.dueText("without the last: weights", Check.weights(last), "1 1 1 1");
        Check.dueText("without the last: handle", Check.handle(last), "1 1");
        Check.due("without the last: dimension", last.count(1), 2);
        CliqueLabels middle = Check.graph(8, 1, "03,34,37,47");
        middle.remove(3);
        Check.dueText("without a middle one", Check.edges(middle), "36");
    }

    // Promise 6: "Takes a vertex away, with its weight and label": it counts for nothing any more
    private static void removeLeavesNoTrace() {
        CliqueLabels x = Check.graph(2, 1, "01");
        Check.weights(x, 1, 9);
        Check.labels(x, 0, 1);
        Check.labels(x, 1, 9);
        Check.handle(x, 1);
        x.take(0);
        x.remove(1);
        Check.due("no weight and no label of it", x.whyNotMultiply(0), 0);
        Check.due("its pair fits no more", x.whyNot(0), 0);
        Check.due("its clique", x.count(3), 1);
        Check.due("its edges", x.count(2), 0);
        Check.due("its color", x.count(6), 1);
        Check.due("complement without it", x.complement(), 0);
        x.take(1);
        Check.due("a snapshot without it", x.restore(1), 1);
        Check.due("a product without it", x.multiply(1), 1);
        Check.dueText("a product without it: weights", Check.weights(x), "1");
    }

    // Promise 6: "if there is no such vertex" before "if it is the only one"
    private static void removeRefuses() {
        for (int wrong : Start.beyond(0, 7)) {
            Start.refusedInAll("remove " + wrong, Check.INDEX, x -> x.remove(wrong));
        }
        Start.refusedInAll("remove n", Check.INDEX, x -> x.remove(x.count(0)));
        Start.LEAST.refused("remove the only one", Check.STATE, x -> x.remove(0));
        Start.LEAST.refused("remove 1 where 0 is the only one", Check.INDEX, x -> x.remove(1));
    }

    private static CliqueLabels pair(int n, int d, int m, int e) {
        CliqueLabels x = Check.graph(m, e, "");
        x.take(1);
        x.begin(n, d);
        return x;
    }

    // Promise 7: 8 vertices and 4 places are the most: all sizes, allowed and refused ones
    private static void multiplyToTheMost() {
        for (int n = 1; n <= 8; n++) {
            for (int m = 1; m <= 8; m++) {
                sizes(n, 1, m, 1);
                sizes(n, 4, m, 1);
                sizes(n, 2, m, 2);
                sizes(n, 2, m, 3);
                sizes(n, 4, m, 4);
            }
        }
    }

    private static void sizes(int n, int d, int m, int e) {
        String what = "multiply " + n + " " + d + " by " + m + " " + e;
        Start start = new Start(what, () -> pair(n, d, m, e));
        if (n * m <= 8 && d * e <= 4) {
            start.undoable("multiply", n * m, x -> x.multiply(1));
            CliqueLabels x = start.make();
            x.multiply(1);
            Check.due(what + ": n", x.count(0), n * m);
            Check.due(what + ": d", x.count(1), d * e);
            Check.due(what + ": products", x.count(9), 1);
        } else {
            start.refused("multiply", Check.STATE, x -> x.multiply(1));
            start.looks("whyNotMultiply", n * m > 8 ? 1 : 2, x -> x.whyNotMultiply(1));
        }
    }

    // Promise 7, the least factor: one vertex of weight 1 with the label and the handle 1 changes what is counted alone
    private static void multiplyByOne() {
        CliqueLabels x = Start.SOME.make();
        x.take(1);
        x.begin(1, 1);
        x.label(0, 0, 1);
        x.hold(0, 1);
        x.take(0);
        x.restore(1);
        Check.due("multiply by one", x.multiply(0), 5);
        Check.dueText("multiply by one: edges", Check.edges(x), "01,12,34");
        Check.dueText("multiply by one: weights", Check.weights(x), "1 1 1 1 3");
        Check.dueText("multiply by one: label", Check.label(x, 4), "0 1 0 0");
        Check.dueText("multiply by one: handle", Check.handle(x), "1 1");
        Check.due("multiply by one: products", x.count(9), 1);
        Start.FULL.undoable("multiply by one with 8 vertices", 8, y -> y.multiply(1));
    }

    // Promise 7: "if there is no such snapshot" before "if it was not taken, or there is a reason against it"
    private static void multiplyRefuses() {
        for (int wrong : Start.beyond(0, 1)) {
            Start.refusedInAll("multiply " + wrong, Check.INDEX, x -> x.multiply(wrong));
        }
        Start.LEAST.refused("multiply 0 not taken", Check.STATE, x -> x.multiply(0));
        Start.LEAST.refused("multiply 1 not taken", Check.STATE, x -> x.multiply(1));
        Start.SOME.refused("multiply 1 not taken, 0 is", Check.STATE, x -> x.multiply(1));
        Start.SOME.refused("multiply 5 by 5", Check.STATE, x -> x.multiply(0));
        Start.FULL.refused("multiply 8 by 8", Check.STATE, x -> x.multiply(0));
    }
}

/** Promises 1 to 7: a new object, begin, join, weigh, complement, remove, multiply (reasons: see TermLimitsTest). */
public final class GraphCallsTest {
    private static final int LOW = Integer.MIN_VALUE;
    private static final int HIGH = Integer.MAX_VALUE;

    public static void main(String[] args) {
        promise1();
        promise2();
        promise3();
        promise4();
        promise5();
        promise6();
        promise7();
        Check.finish("GraphCallsTest");
    }

    private static void promise1() {
        CliqueLabels x = new CliqueLabels();
        Check.due("NONE", CliqueLabels.NONE, -1);
        int[] counts = {4, 3, 0, 1, 1, 1, 1, 0, 0, 0, 0, 0};
        for (int what = 0; what < counts.length; what++) {
            Check.due("new: count " + what, x.count(what), counts[what]);
        }
        Check.dueText("new: edges", Check.edges(x), "");
        Check.dueText("new: weights", Check.weights(x), "1 1 1 1");
        Check.dueText("new: handle", Check.handle(x), "0 0 0");
        for (int v = 0; v < 4; v++) {
            Check.dueText("new: label " + v, Check.label(x, v), "0 0 0 0");
        }
        Check.due("new: buffer", x.clearBuffer(), 0);
        Check.refused("new: undo", x, Check.STATE, () -> x.undo());
        Check.refused("new: restore", x, Check.STATE, () -> x.restore(0));
        CliqueLabels other = new CliqueLabels();
        other.weigh(0, 5);
        Check.due("objects share nothing", x.vertex(0, 0), 1);
    }

    private static void promise2() {
        CliqueLabels x = Check.graph(3, 2, "01,12");
        Check.labels(x, 1, 4, -5);
        Check.handle(x, 7, 8);
        Check.weights(x, 3, 0, 9);
        Check.due("begin(8, 4)", x.begin(8, 4), 3);
        Check.dueText("begun: edges", Check.edges(x), "");
        Check.dueText("begun: weights", Check.weights(x), "1 1 1 1 1 1 1 1");
        Check.dueText("begun: handle", Check.handle(x), "0 0 0 0");
        for (int v = 0; v < 8; v++) {
            Check.dueText("begun: label " + v, Check.label(x, v), "0 0 0 0");
        }
        Check.due("begun: n", x.count(0), 8);
        Check.due("begun: d", x.count(1), 4);
        Check.due("begun: saved", x.count(11), 6);
        Check.type(x, "01");
        x.take(1);
        Check.due("begin(1, 1)", x.begin(1, 1), 8);
        Check.due("begin leaves the snapshots", x.count(10), 1);
        Check.due("begin leaves the buffer", x.clearBuffer(), 2);
        CliqueLabels y = new CliqueLabels();
        Check.undoable("begin(5, 1)", y, 4, () -> y.begin(5, 1));
        Check.refused("begin(0, 1)", y, Check.ARGUMENT, () -> y.begin(0, 1));
        Check.refused("begin(9, 1)", y, Check.ARGUMENT, () -> y.begin(9, 1));
        Check.refused("begin(1, 0)", y, Check.ARGUMENT, () -> y.begin(1, 0));
        Check.refused("begin(1, 5)", y, Check.ARGUMENT, () -> y.begin(1, 5));
        Check.refused("begin(low, 1)", y, Check.ARGUMENT, () -> y.begin(LOW, 1));
        Check.refused("begin(1, high)", y, Check.ARGUMENT, () -> y.begin(1, HIGH));
    }

    private static void promise3() {
        CliqueLabels x = new CliqueLabels();
        Check.undoable("join(0, 3, true)", x, 1, () -> x.join(0, 3, true));
        Check.undoable("join(2, 1, true)", x, 2, () -> x.join(2, 1, true));
        Check.dueText("join: edges", Check.edges(x), "03,12");
        Check.due("join: the other way round", x.joined(3, 0), 1);
        Check.undoable("join what is joined", x, 2, () -> x.join(3, 0, true));
        Check.undoable("part what is not joined", x, 2, () -> x.join(0, 1, false));
        Check.undoable("part", x, 1, () -> x.join(3, 0, false));
        Check.dueText("part: edges", Check.edges(x), "12");
        Check.refused("join(4, 0)", x, Check.INDEX, () -> x.join(4, 0, true));
        Check.refused("join(0, 4)", x, Check.INDEX, () -> x.join(0, 4, true));
        Check.refused("join(-1, 0)", x, Check.INDEX, () -> x.join(-1, 0, false));
        Check.refused("join(0, -1)", x, Check.INDEX, () -> x.join(0, -1, false));
        Check.refused("join(0, low)", x, Check.INDEX, () -> x.join(0, LOW, false));
        Check.refused("join(high, 0)", x, Check.INDEX, () -> x.join(HIGH, 0, true));
        Check.refused("join(2, 2, true)", x, Check.ARGUMENT, () -> x.join(2, 2, true));
        Check.refused("join(2, 2, false)", x, Check.ARGUMENT, () -> x.join(2, 2, false));
        Check.refused("join(4, 4): the index first", x, Check.INDEX, () -> x.join(4, 4, true));
        Check.refused("join(-1, -1): the index first", x, Check.INDEX, () -> x.join(-1, -1, true));
    }

    private static void promise4() {
        CliqueLabels x = new CliqueLabels();
        Check.undoable("weigh(3, 9)", x, 1, () -> x.weigh(3, 9));
        Check.undoable("weigh(3, 0)", x, 9, () -> x.weigh(3, 0));
        Check.due("weigh(3, 0) again", x.weigh(3, 0), 0);
        Check.due("weigh saves, also the same", x.count(11), 3);
        Check.dueText("weights", Check.weights(x), "1 1 1 0");
        Check.refused("weigh(4, 1)", x, Check.INDEX, () -> x.weigh(4, 1));
        Check.refused("weigh(-1, 1)", x, Check.INDEX, () -> x.weigh(-1, 1));
        Check.refused("weigh(0, 10)", x, Check.ARGUMENT, () -> x.weigh(0, 10));
        Check.refused("weigh(0, -1)", x, Check.ARGUMENT, () -> x.weigh(0, -1));
        Check.refused("weigh(0, low)", x, Check.ARGUMENT, () -> x.weigh(0, LOW));
        Check.refused("weigh(4, 10): the index first", x, Check.INDEX, () -> x.weigh(4, 10));
        Check.refused("weigh(high, high): the index first", x, Check.INDEX, () -> x.weigh(HIGH, HIGH));
    }

    private static void promise5() {
        CliqueLabels x = new CliqueLabels();
        Check.undoable("complement of none", x, 6, () -> x.complement());
        Check.due("complement of all", x.complement(), 0);
        CliqueLabels y = Check.graph(5, 2, "01,12,23");
        Check.labels(y, 0, 3, 4);
        Check.due("complement of a path", y.complement(), 7);
        Check.dueText("complement of a path: edges", Check.edges(y), "02,03,04,13,14,24,34");
        Check.dueText("complement leaves labels", Check.label(y, 0), "3 4 0 0");
        CliqueLabels one = Check.graph(1, 1, "");
        Check.undoable("complement of one vertex", one, 0, () -> one.complement());
        CliqueLabels eight = Check.graph(8, 1, "");
        Check.due("complement of eight", eight.complement(), 28);
        Check.due("a vertex is not joined with itself", eight.joined(7, 7), 0);
    }

    private static void promise6() {
        for (int gone = 0; gone < 5; gone++) {
            CliqueLabels x = Check.graph(5, 2, "01,12,23,34,04,13");
            Check.weights(x, 2, 3, 4, 5, 6);
            for (int v = 0; v < 5; v++) {
                Check.labels(x, v, v, -v);
            }
            Check.handle(x, 8, 9);
            Check.due("remove(" + gone + ")", x.remove(gone), 4);
            for (int a = 0; a < 4; a++) {
                int oldA = a < gone ? a : a + 1;
                String where = "removed " + gone + ", vertex " + a;
                Check.due(where + ": weight", x.vertex(a, 0), 2 + oldA);
                Check.dueText(where + ": label", Check.label(x, a), oldA + " " + -oldA + " 0 0");
                for (int b = 0; b < 4; b++) {
                    int oldB = b < gone ? b : b + 1;
                    String pair = "" + Math.min(oldA, oldB) + Math.max(oldA, oldB);
                    Check.due(where + " with " + b, x.joined(a, b), "01,12,23,34,04,13".contains(pair) ? 1 : 0);
                }
            }
            Check.dueText("remove leaves the handle", Check.handle(x), "8 9");
            Check.due("remove: n", x.count(0), 4);
        }
        CliqueLabels y = Check.graph(3, 1, "02");
        Check.undoable("remove(0)", y, 2, () -> y.remove(0));
        Check.due("remove(1)", y.remove(1), 1);
        Check.refused("remove the only one", y, Check.STATE, () -> y.remove(0));
        Check.refused("remove(1) of one: the index first", y, Check.INDEX, () -> y.remove(1));
        Check.refused("remove(-1) of one: the index first", y, Check.INDEX, () -> y.remove(-1));
        CliqueLabels z = new CliqueLabels();
        Check.refused("remove(4)", z, Check.INDEX, () -> z.remove(4));
        Check.refused("remove(low)", z, Check.INDEX, () -> z.remove(LOW));
        z.complement();
        z.remove(3);
        Check.due("removed, then complement", z.complement(), 0);
    }

    private static void promise7() {
        CliqueLabels x = Check.graph(3, 2, "01");
        Check.weights(x, 2, 0, 1);
        Check.labels(x, 0, 1, 2);
        Check.labels(x, 1, -1, 0);
        Check.labels(x, 2, 3, 0);
        Check.handle(x, 2, -3);
        x.take(0);
        x.begin(2, 2);
        x.join(0, 1, true);
        Check.weights(x, 3, 4);
        Check.labels(x, 0, 1, -2);
        Check.labels(x, 1, 0, 3);
        Check.handle(x, -1, 3);
        Check.due("no reason", x.whyNotMultiply(0), 0);
        long before = x.digest();
        Check.due("multiply", x.multiply(0), 6);
        Check.due("multiply: dimension", x.count(1), 4);
        Check.dueText("multiply: weights", Check.weights(x), "6 0 3 8 0 4");
        Check.dueText("multiply: handle", Check.handle(x), "-2 3 6 -9");
        String[] labels = {"1 2 -2 -4", "-1 0 2 0", "3 0 -6 0", "0 0 3 6", "0 0 -3 0", "0 0 9 0"};
        for (int v = 0; v < 6; v++) {
            Check.dueText("multiply: label " + v, Check.label(x, v), labels[v]);
        }
        Check.dueText("multiply: edges", Check.edges(x), "01,03,04,05,13,14,15,23,24,25,34");
        Check.due("multiply: products made", x.count(9), 1);
        Check.due("multiply leaves the snapshots", x.count(10), 1);
        x.undo();
        Check.due("multiply: products after undo", x.count(9), 0);
        Check.due("multiply: saved after undo", x.count(11), 5);
        x.hold(0, x.handle(0));
        Check.due("multiply: digest after undo", x.digest(), before);
        // the other way round: vertices and places go by the second one first
        x.take(1);
        x.restore(0);
        Check.due("multiply the other way round", x.multiply(1), 6);
        Check.dueText("the other way round: weights", Check.weights(x), "6 8 0 0 3 4");
        Check.dueText("the other way round: handle", Check.handle(x), "-2 6 3 -9");
        Check.dueText("the other way round: label", Check.label(x, 1), "0 3 0 6");
        Check.dueText("the other way round: edges", Check.edges(x), "01,02,03,05,12,13,14,23,25,34,45");
        Check.due("products after restore", x.count(9), 1);
        Check.due("begin leaves the products", x.begin(2, 2), 6);
        Check.due("products after begin", x.count(9), 1);
        Check.due("multiply with what was begun", x.multiply(1), 4);
        Check.due("products made twice", x.count(9), 2);
        x.restore(1);
        Check.due("restore leaves the products", x.count(9), 2);
        Check.due("the snapshot stays", x.count(2), 1);
    }
}

/** Promises 8 to 11: label, hold, labelByColors, takeHandle. */
public final class LabelCallsTest {
    private static final int LOW = Integer.MIN_VALUE;
    private static final int HIGH = Integer.MAX_VALUE;

    public static void main(String[] args) {
        promise8();
        promise9();
        promise10();
        promise11();
        Check.finish("LabelCallsTest");
    }

    private static void promise8() {
        CliqueLabels x = new CliqueLabels();
        Check.undoable("label(3, 2, -9)", x, 0, () -> x.label(3, 2, -9));
        Check.undoable("label(3, 2, 9)", x, -9, () -> x.label(3, 2, 9));
        Check.due("label the same", x.label(3, 2, 9), 9);
        Check.due("label saves, also the same", x.count(11), 3);
        Check.dueText("label 3", Check.label(x, 3), "0 0 9 0");
        Check.dueText("label 2", Check.label(x, 2), "0 0 0 0");
        Check.dueText("label leaves the handle", Check.handle(x), "0 0 0");
        Check.refused("label(4, 0, 0)", x, Check.INDEX, () -> x.label(4, 0, 0));
        Check.refused("label(-1, 0, 0)", x, Check.INDEX, () -> x.label(-1, 0, 0));
        Check.refused("label(0, 3, 0)", x, Check.INDEX, () -> x.label(0, 3, 0));
        Check.refused("label(0, -1, 0)", x, Check.INDEX, () -> x.label(0, -1, 0));
        Check.refused("label(0, high, 0)", x, Check.INDEX, () -> x.label(0, HIGH, 0));
        Check.refused("label(0, 0, 10)", x, Check.ARGUMENT, () -> x.label(0, 0, 10));
        Check.refused("label(0, 0, -10)", x, Check.ARGUMENT, () -> x.label(0, 0, -10));
        Check.refused("label(0, 0, low)", x, Check.ARGUMENT, () -> x.label(0, 0, LOW));
        Check.refused("label(4, 0, 10): the index first", x, Check.INDEX, () -> x.label(4, 0, 10));
        Check.refused("label(0, 3, 10): the index first", x, Check.INDEX, () -> x.label(0, 3, 10));
        x.begin(2, 4);
        Check.due("label(1, 3, 5)", x.label(1, 3, 5), 0);
        x.begin(2, 1);
        Check.refused("label(1, 1, 5)", x, Check.INDEX, () -> x.label(1, 1, 5));
    }

    private static void promise9() {
        CliqueLabels x = new CliqueLabels();
        Check.undoable("hold(2, 9)", x, 0, () -> x.hold(2, 9));
        Check.undoable("hold(2, -9)", x, 9, () -> x.hold(2, -9));
        Check.due("hold the same", x.hold(2, -9), -9);
        Check.due("hold saves, also the same", x.count(11), 3);
        Check.dueText("handle", Check.handle(x), "0 0 -9");
        Check.dueText("hold leaves labels", Check.label(x, 0), "0 0 0 0");
        Check.refused("hold(3, 0)", x, Check.INDEX, () -> x.hold(3, 0));
        Check.refused("hold(-1, 0)", x, Check.INDEX, () -> x.hold(-1, 0));
        Check.refused("hold(0, 10)", x, Check.ARGUMENT, () -> x.hold(0, 10));
        Check.refused("hold(0, -10)", x, Check.ARGUMENT, () -> x.hold(0, -10));
        Check.refused("hold(0, high)", x, Check.ARGUMENT, () -> x.hold(0, HIGH));
        Check.refused("hold(3, 10): the index first", x, Check.INDEX, () -> x.hold(3, 10));
        Check.refused("hold(low, low): the index first", x, Check.INDEX, () -> x.hold(LOW, LOW));
    }

    private static void promise10() {
        CliqueLabels x = Check.graph(5, 4, "03,34,12");
        for (int v = 0; v < 5; v++) {
            Check.labels(x, v, 9, 8, 7, 6);
        }
        Check.handle(x, 5, 4, 3, 2);
        Check.due("labelByColors", x.labelByColors(), 2);
        String[] labels = {"1 0 0 0", "1 0 0 0", "0 1 0 0", "0 1 0 0", "1 0 0 0"};
        for (int v = 0; v < 5; v++) {
            Check.dueText("labelByColors: label " + v, Check.label(x, v), labels[v]);
        }
        Check.dueText("labelByColors: handle", Check.handle(x), "1 1 0 0");
        Check.due("labelByColors: the bound above", x.bound(0), 2);
        Check.due("labelByColors: the bound below", x.bound(1), 1);
        CliqueLabels y = Check.graph(4, 4, "");
        Check.undoable("labelByColors, one color", y, 1, () -> y.labelByColors());
        Check.dueText("one color: handle", Check.handle(y), "1 0 0 0");
        CliqueLabels k = new CliqueLabels();
        k.complement();
        Check.refused("four colors, dimension 3", k, Check.STATE, () -> k.labelByColors());
        k.join(0, 1, false);
        Check.undoable("three colors, dimension 3", k, 3, () -> k.labelByColors());
        Check.dueText("three colors: label 3", Check.label(k, 3), "0 0 1 0");
        CliqueLabels five = Check.graph(5, 4, "");
        five.complement();
        Check.refused("five colors", five, Check.STATE, () -> five.labelByColors());
        CliqueLabels one = Check.graph(2, 1, "01");
        Check.refused("two colors, dimension 1", one, Check.STATE, () -> one.labelByColors());
        one.join(0, 1, false);
        Check.due("one color, dimension 1", one.labelByColors(), 1);
    }

    private static void promise11() {
        CliqueLabels x = Check.graph(2, 2, "");
        Check.labels(x, 0, 1, 2);
        Check.labels(x, 1, 2, 1);
        Check.undoable("takeHandle(1)", x, 1, () -> x.takeHandle(1));
        Check.dueText("takeHandle(1): handle", Check.handle(x), "-1 -1");
        Check.due("takeHandle(1): bound", x.bound(0) * 100 + x.bound(1), 1009);
        Check.due("takeHandle(2)", x.takeHandle(2), 1);
        Check.dueText("takeHandle(2): handle", Check.handle(x), "-2 -2");
        CliqueLabels two = Check.graph(1, 2, "");
        Check.labels(two, 0, 2, 4);
        Check.due("takeHandle(1) of one", two.takeHandle(1), 1);
        Check.dueText("takeHandle(1) of one: handle", Check.handle(two), "-1 -1");
        Check.due("takeHandle(2) of one", two.takeHandle(2), 1);
        Check.dueText("takeHandle(2) of one: handle", Check.handle(two), "-1 -2");
        CliqueLabels none = Check.graph(2, 2, "01");
        Check.labels(none, 0, 1, 2);
        Check.labels(none, 1, 2, 1);
        Check.handle(none, 5, 6);
        Check.due("takeHandle, labels do not fit", none.takeHandle(2), 0);
        Check.dueText("the handle stays", Check.handle(none), "5 6");
        CliqueLabels zero = new CliqueLabels();
        Check.undoable("takeHandle, labels are 0", zero, 0, () -> zero.takeHandle(1));
        Check.dueText("the handle stays 0", Check.handle(zero), "0 0 0");
        Check.weights(zero, 0, 0, 0, 0);
        Check.due("takeHandle without weights", zero.takeHandle(2), 1);
        Check.dueText("the least handle", Check.handle(zero), "-2 -2 -2");
        zero.begin(1, 4);
        Check.due("the handle in front", zero.handle(3), 0);
        for (int size : new int[] {0, 3, -1, LOW, HIGH}) {
            Check.refused("takeHandle(" + size + ")", zero, Check.ARGUMENT, () -> zero.takeHandle(size));
        }
    }
}

/** Promises 8 to 11 at their limits: each sentence that names one has a method of its own. */
public final class LabelLimitsTest {
    /** Labels along both axes and both diagonals: no handle of the size 1 has a product with each of them. */
    private static final Start STAR = new Start("star", () -> star());
    /** Joined vertices whose labels do not fit. */
    private static final Start UNFIT = new Start("unfit", () -> unfit());
    private static final Start WEIGHTLESS = new Start("weightless", () -> weightless());

    public static void main(String[] args) {
        labelAtTheEnds();
        labelRefuses();
        holdAtTheEnds();
        holdRefuses();
        colorsUpToTheDimension();
        colorsBeyondTheDimension();
        colorsAndZeroElsewhere();
        colorsTwice();
        takeHandleOfBothSizes();
        takeHandleStays();
        takeHandleWithoutWeights();
        takeHandleRefuses();
        Check.finish("LabelLimitsTest");
    }

    private static CliqueLabels star() {
        CliqueLabels x = Check.graph(4, 2, "");
        Check.labels(x, 0, 1, 1);
        Check.labels(x, 1, 1, -1);
        Check.labels(x, 2, 1, 0);
        Check.labels(x, 3, 0, 1);
        Check.handle(x, 5, -7);
        return x;
    }

    private static CliqueLabels unfit() {
        CliqueLabels x = Check.graph(8, 3, "67");
        Check.labels(x, 6, 0, 0, 1);
        Check.labels(x, 7, 0, 0, -1);
        Check.weights(x, 0, 0, 0, 0, 0, 0, 0, 0);
        Check.handle(x, 3, 2, 1);
        return x;
    }

    private static CliqueLabels weightless() {
        CliqueLabels x = Check.graph(3, 4, "");
        Check.weights(x, 0, 0, 0);
        Check.handle(x, 9, 9, 9, 9);
        return x;
    }

    // Promise 8: "place: 0 to d - 1", "value: -9 to 9", "Returns the previous number."
    private static void labelAtTheEnds() {
        for (int d = 1; d <= 4; d++) {
            for (int n = 1; n <= 8; n += 7) {
                int last = n - 1;
                int lastPlace = d - 1;
                int places = d;
                Start start = new Start("labels " + n + " " + d, () -> Check.graph(last + 1, places, ""));
                for (int k = -9; k <= 9; k += 3) {
                    int value = k;
                    start.undoable("label 0 0 " + k, 0, x -> x.label(0, 0, value));
                    start.undoable("label at the last place " + k, 0, x -> x.label(last, lastPlace, value));
                    CliqueLabels x = start.make();
                    x.label(last, lastPlace, value);
                    Check.due("the number is held", x.vertex(last, 10 + lastPlace), value);
                    Check.due("the number is returned", x.label(last, lastPlace, -value), value);
                }
            }
        }
        Start.FULL.undoable("label the same", 7, x -> x.label(7, 3, 7));
        Start.FULL.undoable("label from -9 to 9", -9, x -> x.label(7, 1, 9));
        CliqueLabels x = Start.FULL.make();
        x.label(0, 3, -1);
        Check.dueText("label changes one number", Check.label(x, 0), "9 -9 9 -1");
        Check.dueText("label changes one label", Check.label(x, 1), "9 -9 9 1");
        Check.dueText("label leaves the handle", Check.handle(x), "9 9 -9 -9");
    }

    // Promise 8: "if there is no such vertex or place" before "if value is out of range"
    private static void labelRefuses() {
        for (int wrong : Start.beyond(-9, 9)) {
            Start.refusedInAll("label 0 0 " + wrong, Check.ARGUMENT, x -> x.label(0, 0, wrong));
            Start.refusedInAll("label the last " + wrong, Check.ARGUMENT,
                x -> x.label(x.count(0) - 1, x.count(1) - 1, wrong));
            Start.refusedInAll("label n 0 " + wrong, Check.INDEX, x -> x.label(x.count(0), 0, wrong));
            Start.refusedInAll("label 0 d " + wrong, Check.INDEX, x -> x.label(0, x.count(1), wrong));
        }
        for (int wrong : Start.beyond(0, 7)) {
            Start.refusedInAll("label " + wrong + " 0 0", Check.INDEX, x -> x.label(wrong, 0, 0));
            Start.refusedInAll("label " + wrong + " d 10", Check.INDEX, x -> x.label(wrong, x.count(1), 10));
        }
        for (int wrong : Start.beyond(0, 3)) {
            Start.refusedInAll("label 0 " + wrong + " 0", Check.INDEX, x -> x.label(0, wrong, 0));
            Start.refusedInAll("label 0 " + wrong + " -10", Check.INDEX, x -> x.label(0, wrong, -10));
        }
        Start.refusedInAll("label n 0 0", Check.INDEX, x -> x.label(x.count(0), 0, 0));
        Start.refusedInAll("label 0 d 0", Check.INDEX, x -> x.label(0, x.count(1), 0));
        Start.refusedInAll("label the last at d", Check.INDEX, x -> x.label(x.count(0) - 1, x.count(1), 0));
    }

    // Promise 9: "place: 0 to d - 1", "value: -9 to 9", "Returns the previous number."
    private static void holdAtTheEnds() {
        for (int d = 1; d <= 4; d++) {
            int last = d - 1;
            int places = d;
            Start start = new Start("handle " + d, () -> Check.graph(1, places, ""));
            for (int k = -9; k <= 9; k++) {
                int value = k;
                start.undoable("hold 0 " + k, 0, x -> x.hold(0, value));
                start.undoable("hold the last " + k, 0, x -> x.hold(last, value));
                CliqueLabels x = start.make();
                x.hold(last, value);
                Check.due("the number is held", x.handle(last), value);
                Check.due("the number is returned", x.hold(last, -value), value);
            }
        }
        Start.FULL.undoable("hold the same", -9, x -> x.hold(3, -9));
        Start.FULL.undoable("hold from 9 to -9", 9, x -> x.hold(0, -9));
        CliqueLabels x = Start.FULL.make();
        x.hold(1, 0);
        Check.dueText("hold changes one number", Check.handle(x), "9 0 -9 -9");
        Check.dueText("hold leaves the labels", Check.label(x, 1), "9 -9 9 1");
    }

    // Promise 9: "if there is no such place" before "if value is out of range"
    private static void holdRefuses() {
        for (int wrong : Start.beyond(-9, 9)) {
            Start.refusedInAll("hold 0 " + wrong, Check.ARGUMENT, x -> x.hold(0, wrong));
            Start.refusedInAll("hold the last " + wrong, Check.ARGUMENT, x -> x.hold(x.count(1) - 1, wrong));
            Start.refusedInAll("hold d " + wrong, Check.INDEX, x -> x.hold(x.count(1), wrong));
            Start.refusedInAll("hold -1 " + wrong, Check.INDEX, x -> x.hold(-1, wrong));
        }
        for (int wrong : Start.beyond(0, 3)) {
            Start.refusedInAll("hold " + wrong + " 0", Check.INDEX, x -> x.hold(wrong, 0));
        }
        Start.refusedInAll("hold d 0", Check.INDEX, x -> x.hold(x.count(1), 0));
    }

    private static Start colored(int n, int d, String edges) {
        return new Start(n + " vertices, " + d + " places, " + edges, () -> Check.graph(n, d, edges));
    }

    private static void allowed(int n, int d, String edges, int number) {
        Start start = colored(n, d, edges);
        start.undoable("labelByColors", number, x -> x.labelByColors());
        CliqueLabels x = start.make();
        x.labelByColors();
        Check.due("the bound by colors is their number", x.bound(0) * 10 + x.bound(1), number * 10 + 1);
        Check.due("each color has its number in the handle", x.count(8), number);
    }

    // Promise 10 with reason 5, "there are more colors than the dimension": as many are not more
    private static void colorsUpToTheDimension() {
        for (int d = 1; d <= 4; d++) {
            allowed(1, d, "", 1);
            allowed(8, d, "", 1);
        }
        allowed(2, 2, "01", 2);
        allowed(8, 2, "01,12,23,34,45,56,67,07", 2);
        allowed(3, 3, "01,02,12", 3);
        allowed(5, 3, "01,12,23,34,04", 3);
        allowed(4, 4, "01,02,03,12,13,23", 4);
        allowed(8, 4, "67,57,47,56,46,45", 4);
        allowed(6, 4, "01,12,23,34,04,05,15,25,35,45", 4);
    }

    private static void refused(int n, int d, String edges) {
        colored(n, d, edges).refused("labelByColors", Check.STATE, x -> x.labelByColors());
    }

    // Promise 10: "IllegalStateException if there is a reason against it": one color more than the dimension
    private static void colorsBeyondTheDimension() {
        refused(2, 1, "01");
        refused(8, 1, "67");
        refused(3, 2, "01,02,12");
        refused(5, 2, "01,12,23,34,04");
        refused(4, 3, "01,02,03,12,13,23");
        refused(6, 3, "01,12,23,34,04,05,15,25,35,45");
        refused(5, 4, "01,02,03,04,12,13,14,23,24,34");
        Start.FULL.refused("labelByColors, eight colors", Check.STATE, x -> x.labelByColors());
    }

    // Promise 10: "that of a vertex is 1 at the place of its color, and 0 elsewhere", and the handle likewise
    private static void colorsAndZeroElsewhere() {
        CliqueLabels x = Start.FULL.make();
        for (int gone = 7; gone >= 4; gone--) {
            x.remove(gone);
        }
        Check.due("four colors", x.labelByColors(), 4);
        Check.dueText("four colors: handle", Check.handle(x), "1 1 1 1");
        Check.dueText("four colors: the first", Check.label(x, 0), "1 0 0 0");
        Check.dueText("four colors: the last", Check.label(x, 3), "0 0 0 1");
        Check.dueText("labelByColors leaves the weights", Check.weights(x), "9 9 9 9");
        x.complement();
        Check.due("one color", x.labelByColors(), 1);
        Check.dueText("one color: handle", Check.handle(x), "1 0 0 0");
        Check.dueText("one color: the last", Check.label(x, 3), "1 0 0 0");
        Check.dueText("labelByColors leaves the edges", Check.edges(x), "");
    }

    // Promise 10, "Undoable": also where labels and handle are so already
    private static void colorsTwice() {
        Start twice = new Start("colored", () -> {
            CliqueLabels x = Check.graph(3, 3, "01");
            x.labelByColors();
            return x;
        });
        twice.undoable("labelByColors again", 2, x -> x.labelByColors());
    }

    // Promise 11: "size: 1 or 2", "Returns 1 if there is a bound by some handle of this size, otherwise 0"
    private static void takeHandleOfBothSizes() {
        STAR.undoable("takeHandle 1", 0, x -> x.takeHandle(1));
        STAR.undoable("takeHandle 2", 1, x -> x.takeHandle(2));
        CliqueLabels x = STAR.make();
        x.takeHandle(2);
        Check.dueText("the handle of the size 2", Check.handle(x), "-2 -1");
        Check.due("its bound", x.bound(0) * 10 + x.bound(1), 101);
        Check.due("takeHandle 2 again", x.takeHandle(2), 1);
        Check.due("takeHandle 2 again saves", x.count(11), 6);
        Start best = new Start("best", () -> {
            CliqueLabels y = Check.graph(1, 1, "");
            y.label(0, 0, 9);
            y.hold(0, -1);
            return y;
        });
        best.undoable("takeHandle 1, the best one is held", 1, y -> y.takeHandle(1));
    }

    // Promise 11: "otherwise 0 (the handle stays then)"; it is saved all the same
    private static void takeHandleStays() {
        CliqueLabels star = STAR.make();
        star.takeHandle(1);
        Check.dueText("no handle of the size 1: it stays", Check.handle(star), "5 -7");
        UNFIT.undoable("takeHandle 1", 0, x -> x.takeHandle(1));
        UNFIT.undoable("takeHandle 2", 0, x -> x.takeHandle(2));
        CliqueLabels unfit = UNFIT.make();
        unfit.takeHandle(2);
        Check.dueText("labels do not fit: it stays", Check.handle(unfit), "3 2 1");
        Start.NEW.undoable("takeHandle 1", 0, x -> x.takeHandle(1));
        Start.LEAST.undoable("takeHandle 2", 0, x -> x.takeHandle(2));
        Start.FULL.undoable("takeHandle 2", 0, x -> x.takeHandle(2));
        CliqueLabels full = Start.FULL.make();
        full.takeHandle(1);
        Check.dueText("eight that do not fit: it stays", Check.handle(full), "9 9 -9 -9");
    }

    // Promise 11, without weights: the bound is 0 by each handle, and the least one of them is taken
    private static void takeHandleWithoutWeights() {
        WEIGHTLESS.undoable("takeHandle 1", 1, x -> x.takeHandle(1));
        WEIGHTLESS.undoable("takeHandle 2", 1, x -> x.takeHandle(2));
        CliqueLabels x = WEIGHTLESS.make();
        x.takeHandle(1);
        Check.dueText("the least handle of the size 1", Check.handle(x), "-1 -1 -1 -1");
        x.takeHandle(2);
        Check.dueText("the least handle of the size 2", Check.handle(x), "-2 -2 -2 -2");
    }

    // Promise 11: "IllegalArgumentException if size is not 1 or 2"
    private static void takeHandleRefuses() {
        for (int wrong : Start.beyond(1, 2)) {
            Start.refusedInAll("takeHandle " + wrong, Check.ARGUMENT, x -> x.takeHandle(wrong));
            STAR.refused("takeHandle " + wrong, Check.ARGUMENT, x -> x.takeHandle(wrong));
            WEIGHTLESS.refused("takeHandle " + wrong, Check.ARGUMENT, x -> x.takeHandle(wrong));
        }
    }
}

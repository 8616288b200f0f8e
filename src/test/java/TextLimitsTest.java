/** Promises 12 to 18 at their limits: each sentence that names one has a method of its own. */
public final class TextLimitsTest {
    private static final int FIRST = 33;
    private static final int LAST = 126;
    /** The longest row that the buffer holds. */
    private static final Start ROW = new Start("a row of 59", () -> typed(8, Start.ROW_OF_59));

    public static void main(String[] args) {
        appendAllCodes();
        appendUpTo60();
        appendRefuses();
        appendSavesNothing();
        clearAtTheEnds();
        firstCharacters();
        secondCharacters();
        thirdCharacters();
        errorsAtTheEnds();
        errorsByTheGraphOfNow();
        readTheLeastAndTheMost();
        readWhatIsJoined();
        readAsOneCall();
        readRefuses();
        takeAtTheEnds();
        takeInPlace();
        takeRefuses();
        restoreAtTheEnds();
        restoreStays();
        restoreLeaves();
        restoreRefuses();
        undoToTheLast();
        undoRefuses();
        Check.finish("TextLimitsTest");
    }

    private static CliqueLabels typed(int n, String text) {
        CliqueLabels x = Check.graph(n, 1, "");
        Check.type(x, text);
        return x;
    }

    private static boolean isDigit(int code, int from, int below) {
        return code >= '0' + from && code < '0' + below;
    }

    // Promise 12: "code: the character code, 33 to 126"
    private static void appendAllCodes() {
        CliqueLabels x = new CliqueLabels();
        for (int code = FIRST; code <= LAST; code++) {
            Check.due("append " + code, x.append(code), code % 2 == 1 ? 1 : 2);
            if (code % 2 == 0) {
                Check.due("both are held", x.clearBuffer(), 2);
            }
        }
        Start.LEAST.refused("append 32", Check.ARGUMENT, y -> y.append(32));
        Start.LEAST.refused("append 127", Check.ARGUMENT, y -> y.append(127));
    }

    // "The buffer has at most 60 characters.", promise 12: "Returns the new length of the buffer."
    private static void appendUpTo60() {
        CliqueLabels x = new CliqueLabels();
        for (int length = 1; length <= 60; length++) {
            Check.due("append to " + length, x.append(LAST), length);
        }
        Check.refused("append the 61st", x, Check.STATE, () -> x.append(LAST));
        Check.due("all 60 are held", x.clearBuffer(), 60);
        Check.due("append when it is cleared", x.append(FIRST), 1);
    }

    // Promise 12: "if code is not 33 to 126" before "if the buffer has 60 characters"
    private static void appendRefuses() {
        for (int wrong : Start.beyond(FIRST, LAST)) {
            Start.refusedInAll("append " + wrong, Check.ARGUMENT, x -> x.append(wrong));
        }
        for (int code : new int[] {'0' + 256, ',' + 65536, 'A' - 256, 0, -'0'}) {
            Start.refusedInAll("append " + code, Check.ARGUMENT, x -> x.append(code));
        }
        Start.FULL.refused("append 33", Check.STATE, x -> x.append(FIRST));
        Start.FULL.refused("append 126", Check.STATE, x -> x.append(LAST));
        Start.FULL.refused("append 32 to 60", Check.ARGUMENT, x -> x.append(FIRST - 1));
        Start.FULL.refused("append 127 to 60", Check.ARGUMENT, x -> x.append(LAST + 1));
    }

    /** Six saved states, with the weights 3 to 8 of the vertex 0; it is 9 now. */
    private static CliqueLabels sixStates() {
        CliqueLabels x = new CliqueLabels();
        for (int weight = 3; weight <= 9; weight++) {
            x.weigh(0, weight);
        }
        return x;
    }

    private static void sixAreThere(String what, CliqueLabels x) {
        Check.due(what + ": saved states", x.count(11), 6);
        for (int weight = 8; weight >= 3; weight--) {
            Check.due(what + ": undo to " + weight, x.undo(), weight - 3);
            Check.due(what + ": weight " + weight, x.vertex(0, 0), weight);
        }
    }

    // Promises 12, 13, 14 and 16 are not marked "undoable": they save no state, and drop none
    private static void appendSavesNothing() {
        CliqueLabels appended = sixStates();
        appended.append('0');
        sixAreThere("append", appended);
        Check.due("undo leaves the buffer", appended.clearBuffer(), 1);
        CliqueLabels cleared = sixStates();
        Check.type(cleared, "01");
        cleared.clearBuffer();
        sixAreThere("clearBuffer", cleared);
        Check.due("undo brings no buffer back", cleared.clearBuffer(), 0);
        CliqueLabels looked = sixStates();
        looked.firstError();
        sixAreThere("firstError", looked);
        CliqueLabels taken = sixStates();
        taken.take(0);
        sixAreThere("take", taken);
        Check.due("undo leaves the snapshots", taken.count(10), 1);
        taken.restore(0);
        Check.due("undo leaves what they keep", taken.vertex(0, 0), 9);
    }

    // Promise 13: "Returns the length that it had.": empty, and full
    private static void clearAtTheEnds() {
        Start.NEW.looks("clearBuffer of nothing", 0, x -> x.clearBuffer());
        CliqueLabels some = Start.SOME.make();
        Check.due("clearBuffer of some", some.clearBuffer(), 4);
        Check.due("clearBuffer again", some.clearBuffer(), 0);
        CliqueLabels full = Start.FULL.make();
        Check.due("clearBuffer of 60", full.clearBuffer(), 60);
        Check.due("clearBuffer of 60: no error", full.firstError(), 0);
        Check.due("clearBuffer saves nothing", full.count(11), 6);
        Check.due("clearBuffer leaves the snapshots", full.count(10), 2);
    }

    private static void error(int n, String text, int want) {
        CliqueLabels x = typed(n, text);
        Check.due("firstError of " + text + ", n " + n, x.firstError(), want);
        Check.due("firstError leaves the buffer: " + text, x.clearBuffer(), text.length());
    }

    // "two digits of different vertices below n, the lesser one first": the first digit is at most n - 2
    private static void firstCharacters() {
        for (int n = 1; n <= 8; n++) {
            for (int code = FIRST; code <= LAST; code++) {
                error(n, "" + (char) code, isDigit(code, 0, n - 1) ? 1 : 0);
            }
        }
    }

    // "two digits of different vertices below n, the lesser one first": the second digit is above it, and below n
    private static void secondCharacters() {
        for (int n = 2; n <= 8; n++) {
            for (int a = 0; a < n - 1; a++) {
                for (int code = FIRST; code <= LAST; code++) {
                    error(n, "" + a + (char) code, isDigit(code, a + 1, n) ? 2 : 1);
                }
            }
        }
    }

    // "one or more edges with ',' between them": behind an edge comes nothing but ",", and behind that an edge
    private static void thirdCharacters() {
        for (int code = FIRST; code <= LAST; code++) {
            error(4, "03" + (char) code, code == ',' ? 3 : 2);
            error(4, "03," + (char) code, isDigit(code, 0, 3) ? 4 : 3);
            error(4, "03,1" + (char) code, isDigit(code, 2, 4) ? 5 : 4);
            error(4, "03,12" + (char) code, code == ',' ? 6 : 5);
        }
    }

    // Promise 14: "the length of the buffer if there is none": empty, incomplete, full; "of any length"
    private static void errorsAtTheEnds() {
        for (int n = 1; n <= 8; n++) {
            error(n, "", 0);
        }
        error(8, "0", 1);
        error(8, "67,", 3);
        error(8, Start.ROW_OF_59, 59);
        error(8, Start.ROW_OF_59 + ",", 60);
        error(8, Start.ROW_OF_59 + "0", 59);
        error(7, Start.ROW_OF_59 + ",", 19);
        error(8, "7" + Start.ROW_OF_59, 0);
        error(8, "01,,12", 3);
        error(1, Start.ROW_OF_59, 0);
        Start.FULL.looks("firstError", 60, x -> x.firstError());
        Start.SOME.looks("firstError", 4, x -> x.firstError());
        Start.LEAST.looks("firstError", 0, x -> x.firstError());
    }

    // "vertices below n": n is that of the graph of now
    private static void errorsByTheGraphOfNow() {
        CliqueLabels x = typed(8, "01,57");
        Check.due("n is 8", x.firstError(), 5);
        x.remove(0);
        Check.due("n is 7", x.firstError(), 4);
        x.remove(0);
        Check.due("n is 6", x.firstError(), 3);
        x.begin(2, 1);
        Check.due("n is 2", x.firstError(), 3);
        x.remove(0);
        Check.due("n is 1", x.firstError(), 0);
        x.undo();
        x.undo();
        x.undo();
        x.undo();
        Check.due("n is 8 again", x.firstError(), 5);
    }

    // "a row of edges as a text is one or more edges": 2 characters at least, and 59 in the buffer at most
    private static void readTheLeastAndTheMost() {
        for (int n = 2; n <= 8; n++) {
            int last = n - 1;
            int size = n;
            Start start = new Start("one edge of " + n, () -> typed(size, "0" + last));
            start.undoable("read", 1, x -> x.read(), y -> y.clearBuffer());
            CliqueLabels x = start.make();
            x.read();
            Check.dueText("one edge of " + n, Check.edges(x), "0" + last);
            Check.due("the buffer is cleared", x.clearBuffer(), 0);
        }
        ROW.undoable("read", 20, x -> x.read(), y -> y.clearBuffer());
        CliqueLabels x = ROW.make();
        x.read();
        Check.dueText("the row of 59", Check.edges(x), Start.ROW_OF_59);
    }

    // Promise 15: "what is joined stays joined"; it is saved also where nothing changes
    private static void readWhatIsJoined() {
        Start start = new Start("joined already", () -> {
            CliqueLabels x = Check.graph(3, 1, "01,12");
            Check.type(x, "01,01,12,01");
            return x;
        });
        start.undoable("read", 2, x -> x.read(), y -> y.clearBuffer());
        Start full = new Start("all joined", () -> {
            CliqueLabels x = Start.FULL.make();
            x.clearBuffer();
            Check.type(x, "67");
            return x;
        });
        full.undoable("read", 28, x -> x.read(), y -> y.clearBuffer());
    }

    // Promise 15: "Undoable, as one call."
    private static void readAsOneCall() {
        CliqueLabels x = sixStates();
        Check.type(x, "01,02,03,12,13,23,01,02");
        Check.due("read", x.read(), 6);
        Check.due("read: saved", x.count(11), 6);
        Check.due("undo", x.undo(), 5);
        Check.due("undo: edges", x.count(2), 0);
        Check.due("undo: weight", x.vertex(0, 0), 9);
        Check.due("undo: the buffer stays empty", x.firstError(), 0);
        for (int weight = 8; weight >= 4; weight--) {
            x.undo();
            Check.due("undo before it: " + weight, x.vertex(0, 0), weight);
        }
        Check.refused("the oldest one is dropped", x, Check.STATE, () -> x.undo());
    }

    private static void unreadable(int n, String text) {
        new Start(n + " with " + text, () -> typed(n, text)).refused("read", Check.ARGUMENT, x -> x.read());
    }

    // Promise 15: "IllegalArgumentException if the buffer is not a complete row of edges"
    private static void readRefuses() {
        String[] incomplete = {"", "0", "01,", "01,1", "01,12,", "01,12,2"};
        String[] wrong = {",", "1", "3", "4", "00", "10", "33", "04", "34", "01;", "01;12", "011", "01,,12", ",01",
            "01,2", "01,10", "01,22", "01,24", "01,12,20", "01!", "~", "0~"};
        for (String text : incomplete) {
            unreadable(4, text);
        }
        for (String text : wrong) {
            unreadable(4, text);
        }
        unreadable(1, "");
        unreadable(1, "0");
        unreadable(1, "01");
        unreadable(2, "02");
        unreadable(7, Start.ROW_OF_59);
        unreadable(8, Start.ROW_OF_59 + ",");
        unreadable(8, Start.ROW_OF_59 + "~");
        unreadable(8, Start.ROW_OF_59.substring(0, 58));
        unreadable(8, "68");
        unreadable(8, "78");
        unreadable(8, "08");
        Start.refusedInAll("read", Check.ARGUMENT, x -> x.read());
    }

    // Promise 16: "Returns its number of vertices.": one and eight; it keeps all that makes the graph
    private static void takeAtTheEnds() {
        CliqueLabels x = Start.FULL.make();
        Check.due("take eight", x.take(1), 8);
        x.begin(1, 1);
        Check.due("take one", x.take(0), 1);
        Check.due("both are taken", x.count(10), 2);
        Check.due("restore eight", x.restore(1), 8);
        Check.due("eight: edges", x.count(2), 28);
        Check.due("eight: dimension", x.count(1), 4);
        Check.dueText("eight: weights", Check.weights(x), "9 9 9 9 9 9 9 9");
        Check.dueText("eight: the last label", Check.label(x, 7), "9 -9 9 7");
        Check.dueText("eight: handle", Check.handle(x), "9 9 -9 -9");
        Check.due("restore one", x.restore(0), 1);
        Check.due("one: dimension", x.count(1), 1);
        Check.dueText("one: weights", Check.weights(x), "1");
        Check.dueText("one: label", Check.label(x, 0), "0 0 0 0");
        Check.dueText("one: handle", Check.handle(x), "0");
    }

    // Promise 16: "Takes a snapshot, in place of the one with its number.": the other one stays
    private static void takeInPlace() {
        for (int k = 0; k <= 1; k++) {
            int number = k;
            int other = 1 - k;
            CliqueLabels x = Check.graph(2, 1, "01");
            x.take(number);
            Check.due("one is taken", x.count(10), 1);
            Check.refused("the other one is not", x, Check.STATE, () -> x.restore(other));
            x.begin(3, 2);
            x.take(other);
            x.begin(5, 3);
            Check.due("take in place", x.take(number), 5);
            Check.due("two are taken", x.count(10), 2);
            x.weigh(4, 8);
            Check.due("restore the newer one", x.restore(number), 5);
            Check.due("what comes later is not in it", x.vertex(4, 0), 1);
            Check.due("restore the other one", x.restore(other), 3);
        }
    }

    // Promise 16: "snapshot: 0 or 1"
    private static void takeRefuses() {
        for (int wrong : Start.beyond(0, 1)) {
            Start.refusedInAll("take " + wrong, Check.INDEX, x -> x.take(wrong));
        }
    }

    // Promise 17: "Returns the number of vertices then."; to more and to fewer vertices and places
    private static void restoreAtTheEnds() {
        Start.FULL.undoable("restore eight", 8, x -> x.restore(0));
        Start.FULL.undoable("restore one", 1, x -> x.restore(1));
        Start.SOME.undoable("restore five", 5, x -> x.restore(0));
        Start same = new Start("as taken", () -> {
            CliqueLabels x = Start.SOME.make();
            x.take(1);
            return x;
        });
        same.undoable("restore what is so already", 5, x -> x.restore(1));
        CliqueLabels x = Start.FULL.make();
        x.restore(1);
        Check.refused("no vertex beyond", x, Check.INDEX, () -> x.vertex(1, 0));
        Check.refused("no place beyond", x, Check.INDEX, () -> x.handle(1));
        Check.dueText("nothing beyond the dimension", Check.label(x, 0), "1 0 0 0");
        Check.due("one vertex: product of the handle", x.count(8), 1);
    }

    // Promise 17: "Restores a snapshot, which stays."
    private static void restoreStays() {
        CliqueLabels x = Start.SOME.make();
        x.take(1);
        for (int round = 0; round < 3; round++) {
            x.join(0, 4, true);
            x.weigh(0, 9);
            x.label(0, 0, -5);
            x.hold(0, -6);
            x.remove(1);
            Check.due("restore", x.restore(1), 5);
            Check.dueText("restored: edges", Check.edges(x), "01,12,34");
            Check.dueText("restored: weights", Check.weights(x), "1 1 1 1 3");
            Check.dueText("restored: label", Check.label(x, 0), "1 0 0 0");
            Check.dueText("restored: handle", Check.handle(x), "1 1");
            x.begin(8, 4);
        }
        Check.due("both are taken still", x.count(10), 2);
    }

    // "Each keeps the graph, weights, dimension, labels and handle.": not the buffer, and not what is counted
    private static void restoreLeaves() {
        CliqueLabels x = Start.FULL.make();
        x.restore(1);
        Check.due("the products made since", x.count(9), 1);
        x.multiply(1);
        x.take(0);
        x.restore(1);
        Check.due("the products made", x.count(9), 2);
        Check.due("the buffer", x.clearBuffer(), 60);
        Check.due("the saved states", x.count(11), 6);
    }

    // Promise 17: "if there is no such snapshot" before "if it was not taken"
    private static void restoreRefuses() {
        for (int wrong : Start.beyond(0, 1)) {
            Start.refusedInAll("restore " + wrong, Check.INDEX, x -> x.restore(wrong));
        }
        Start.LEAST.refused("restore 0 not taken", Check.STATE, x -> x.restore(0));
        Start.LEAST.refused("restore 1 not taken", Check.STATE, x -> x.restore(1));
        Start.SOME.refused("restore 1 not taken, 0 is", Check.STATE, x -> x.restore(1));
    }

    // Promise 18: "Returns how many saved states are left.": from six to none
    private static void undoToTheLast() {
        sixAreThere("undo", sixStates());
        CliqueLabels x = Start.FULL.make();
        for (int left = 5; left >= 0; left--) {
            Check.due("undo to " + left, x.undo(), left);
            Check.due("left", x.count(11), left);
        }
        Check.refused("undo no more", x, Check.STATE, () -> x.undo());
        Check.due("undo leaves the buffer", x.firstError(), 60);
        Check.due("undo leaves the snapshots", x.count(10), 2);
        x.complement();
        Check.due("one is saved again", x.undo(), 0);
        Check.due("and brought back", x.count(2), 28);
    }

    // Promise 18: "IllegalStateException if there is none"
    private static void undoRefuses() {
        Start.NEW.refused("undo", Check.STATE, x -> x.undo());
        Start bare = new Start("nothing saved", () -> {
            CliqueLabels x = Start.FULL.make();
            for (int k = 0; k < 6; k++) {
                x.undo();
            }
            return x;
        });
        bare.refused("undo", Check.STATE, x -> x.undo());
        Start taken = new Start("taken alone", () -> {
            CliqueLabels x = typed(4, "01");
            x.undo();
            x.take(0);
            x.clearBuffer();
            return x;
        });
        taken.refused("undo", Check.STATE, x -> x.undo());
    }
}

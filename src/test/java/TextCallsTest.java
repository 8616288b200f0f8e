/** Promises 12 to 18: append, clearBuffer, firstError, read, take, restore, undo. */
public final class TextCallsTest {
    private static final int LOW = Integer.MIN_VALUE;
    private static final int HIGH = Integer.MAX_VALUE;

    public static void main(String[] args) {
        promise12();
        promise13();
        promise14();
        promise15();
        promise16();
        promise17();
        promise18();
        promise18Depth();
        Check.finish("TextCallsTest");
    }

    private static void promise12() {
        CliqueLabels x = new CliqueLabels();
        Check.due("append(33)", x.append(33), 1);
        Check.due("append(126)", x.append(126), 2);
        for (int code : new int[] {32, 127, 0, -1, 65536 + 48, LOW, HIGH}) {
            Check.refused("append(" + code + ")", x, Check.ARGUMENT, () -> x.append(code));
        }
        for (int k = 3; k <= 60; k++) {
            Check.due("append the " + k + "th", x.append('0'), k);
        }
        Check.refused("append the 61st", x, Check.STATE, () -> x.append('0'));
        Check.refused("append a wrong 61st: the argument first", x, Check.ARGUMENT, () -> x.append(32));
        Check.due("append saves no state", x.count(11), 0);
        Check.due("length", x.clearBuffer(), 60);
        Check.due("append after that", x.append('0'), 1);
    }

    private static void promise13() {
        CliqueLabels x = new CliqueLabels();
        Check.due("clear nothing", x.clearBuffer(), 0);
        long empty = x.digest();
        Check.type(x, "01,");
        Check.due("clear three", x.clearBuffer(), 3);
        Check.due("cleared: digest", x.digest(), empty);
        Check.due("clearBuffer saves no state", x.count(11), 0);
    }

    private static void error(CliqueLabels x, String text, int want) {
        Check.retype(x, text);
        long before = x.digest();
        Check.due("firstError of " + text + ", n " + x.count(0), x.firstError(), want);
        Check.due("firstError changes nothing", x.digest(), before);
    }

    private static void promise14() {
        CliqueLabels x = new CliqueLabels();
        error(x, "", 0);
        error(x, "0", 1);
        error(x, "01", 2);
        error(x, "01,", 3);
        error(x, "01,23", 5);
        error(x, "01,01,01", 8);
        error(x, "3", 0);
        error(x, "34", 0);
        error(x, "4", 0);
        error(x, "23", 2);
        error(x, "00", 1);
        error(x, "10", 1);
        error(x, "22", 1);
        error(x, "04", 1);
        error(x, "03", 2);
        error(x, "0,", 1);
        error(x, ",", 0);
        error(x, ",01", 0);
        error(x, "01,,", 3);
        error(x, "01;", 2);
        error(x, "011", 2);
        error(x, "01,3", 3);
        error(x, "01,2/", 4);
        error(x, "/1", 0);
        error(x, "0:", 1);
        error(x, "a", 0);
        error(x, "01,12,20,99", 7);
        x.begin(8, 1);
        error(x, "67", 2);
        error(x, "68", 1);
        error(x, "7", 0);
        error(x, "8", 0);
        error(x, "07,17,27,37,47,57,67", 20);
        x.begin(2, 1);
        error(x, "01", 2);
        error(x, "02", 1);
        error(x, "1", 0);
        x.begin(1, 1);
        error(x, "", 0);
        error(x, "0", 0);
        error(x, "01", 0);
        error(x, "/", 0);
        x.begin(8, 1);
        String full = "01,02,03,04,05,06,07,12,13,14,15,16,17,23,24,25,26,27,34,35,";
        error(x, full, 60);
        error(x, full.substring(0, 59) + "0", 59);
        Check.retype(x, "06");
        x.begin(4, 1);
        Check.due("the graph is that of now", x.firstError(), 1);
    }

    private static void unreadable(CliqueLabels x, String text) {
        Check.retype(x, text);
        Check.refused("read of " + text, x, Check.ARGUMENT, () -> x.read());
        Check.due("the buffer stays: " + text, x.clearBuffer(), text.length());
    }

    private static void promise15() {
        CliqueLabels x = Check.graph(4, 3, "02");
        Check.type(x, "01,23");
        int saved = x.count(11);
        Check.due("read", x.read(), 3);
        Check.dueText("read: edges", Check.edges(x), "01,02,23");
        Check.due("read saves one state", x.count(11), saved + 1);
        Check.due("read clears the buffer", x.clearBuffer(), 0);
        Check.due("undo of read", x.undo(), saved);
        Check.dueText("undo of read: edges", Check.edges(x), "02");
        Check.due("undo brings no buffer back", x.clearBuffer(), 0);
        Check.type(x, "02,02,13");
        Check.due("read what is joined", x.read(), 2);
        Check.dueText("read what is joined: edges", Check.edges(x), "02,13");
        for (String text : new String[] {"", "0", "01,", "01,2", "3", "10", "11", "04", "01;12", ",01", "01,,12"}) {
            unreadable(x, text);
        }
        CliqueLabels eight = Check.graph(8, 1, "");
        String row = "01,02,03,04,05,06,07,12,13,14,15,16,17,23,24,25,26,27,34,67";
        Check.type(eight, row);
        Check.due("read 59 characters", eight.read(), 20);
        Check.dueText("read 59 characters: edges", Check.edges(eight), row);
        Check.type(eight, row + ",");
        Check.refused("read 60 characters", eight, Check.ARGUMENT, () -> eight.read());
        CliqueLabels one = Check.graph(1, 1, "");
        unreadable(one, "");
        unreadable(one, "01");
        CliqueLabels later = Check.graph(4, 1, "");
        Check.type(later, "05");
        Check.refused("read 05 of four", later, Check.ARGUMENT, () -> later.read());
        later.begin(6, 1);
        Check.due("read 05 of six", later.read(), 1);
    }

    private static void promise16() {
        CliqueLabels x = Check.graph(5, 2, "01,34");
        Check.due("take(1)", x.take(1), 5);
        Check.due("take: taken", x.count(10), 1);
        Check.due("take saves no state", x.count(11), 3);
        Check.due("take(1) again", x.take(1), 5);
        Check.due("take again: taken", x.count(10), 1);
        x.begin(2, 1);
        Check.due("take(0)", x.take(0), 2);
        Check.due("both taken", x.count(10), 2);
        x.undo();
        Check.due("undo leaves snapshots", x.count(10), 2);
        x.weigh(0, 7);
        Check.due("restore what was taken", x.restore(1), 5);
        Check.due("a snapshot is not changed with the graph", x.vertex(0, 0), 1);
        x.begin(3, 3);
        Check.due("take in place", x.take(1), 3);
        x.begin(4, 4);
        Check.due("restore the newer one", x.restore(1), 3);
        for (int number : new int[] {-1, 2, LOW, HIGH}) {
            Check.refused("take(" + number + ")", x, Check.INDEX, () -> x.take(number));
        }
    }

    private static void promise17() {
        CliqueLabels x = Check.graph(3, 4, "01,12");
        Check.weights(x, 4, 5, 6);
        Check.labels(x, 2, -1, 2, -3, 4);
        Check.handle(x, 9, 8, 7, 6);
        x.take(0);
        x.begin(7, 2);
        Check.type(x, "01");
        x.undo();
        x.begin(7, 2);
        Check.due("restore", x.restore(0), 3);
        Check.due("restore: d", x.count(1), 4);
        Check.dueText("restore: edges", Check.edges(x), "01,12");
        Check.dueText("restore: weights", Check.weights(x), "4 5 6");
        Check.dueText("restore: label", Check.label(x, 2), "-1 2 -3 4");
        Check.dueText("restore: handle", Check.handle(x), "9 8 7 6");
        Check.due("restore leaves the buffer", x.clearBuffer(), 2);
        x.weigh(0, 0);
        x.label(2, 0, 9);
        x.join(0, 1, false);
        x.hold(0, 0);
        Check.due("restore again", x.restore(0), 3);
        Check.dueText("restore again: weights", Check.weights(x), "4 5 6");
        Check.dueText("restore again: edges", Check.edges(x), "01,12");
        Check.dueText("restore again: label", Check.label(x, 2), "-1 2 -3 4");
        Check.dueText("restore again: handle", Check.handle(x), "9 8 7 6");
        CliqueLabels y = new CliqueLabels();
        y.take(1);
        Check.undoable("restore the same", y, 4, () -> y.restore(1));
        Check.due("restore leaves the snapshots", y.count(10), 1);
        Check.refused("restore(0) not taken", y, Check.STATE, () -> y.restore(0));
        for (int number : new int[] {-1, 2, LOW, HIGH}) {
            Check.refused("restore(" + number + ")", y, Check.INDEX, () -> y.restore(number));
        }
    }

    private static void promise18() {
        CliqueLabels x = new CliqueLabels();
        Check.refused("undo nothing", x, Check.STATE, () -> x.undo());
        x.weigh(0, 5);
        x.join(0, 1, true);
        Check.due("undo", x.undo(), 1);
        Check.due("undo: edges", x.count(2), 0);
        Check.due("undo: weight", x.vertex(0, 0), 5);
        Check.due("undo is not saved", x.undo(), 0);
        Check.due("undo: weight before", x.vertex(0, 0), 1);
        Check.refused("undo no more", x, Check.STATE, () -> x.undo());
        x.begin(1, 1);
        x.label(0, 0, 1);
        x.take(0);
        x.multiply(0);
        x.multiply(0);
        Check.due("products", x.count(9), 2);
        x.undo();
        Check.due("products after undo", x.count(9), 1);
        x.undo();
        Check.due("products after two", x.count(9), 0);
        Check.type(x, "ab");
        x.undo();
        Check.due("undo leaves the buffer", x.clearBuffer(), 2);
        Check.due("undo leaves the snapshots", x.count(10), 1);
    }

    /** Six states at most: the seventh call drops the oldest one, again and again. */
    private static void promise18Depth() {
        CliqueLabels x = new CliqueLabels();
        for (int k = 1; k <= 9; k++) {
            x.weigh(0, k);
            Check.due("saved after " + k, x.count(11), Math.min(k, 6));
        }
        for (int k = 8; k >= 3; k--) {
            Check.due("undo to " + k, x.undo(), k - 3);
            Check.due("weight at " + k, x.vertex(0, 0), k);
        }
        Check.refused("the oldest ones are dropped", x, Check.STATE, () -> x.undo());
        Check.due("weight is left", x.vertex(0, 0), 3);
        for (int k = 4; k <= 6; k++) {
            x.weigh(0, k);
        }
        x.undo();
        x.weigh(0, 9);
        Check.due("saved anew", x.count(11), 3);
        Check.due("undo anew", x.undo(), 2);
        Check.due("weight anew", x.vertex(0, 0), 5);
    }
}

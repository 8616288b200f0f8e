/** Promises 19 to 28: joined, vertex, handle, bound, whyNot, whyNotMultiply, bestHandle, count, nearness, digest. */
public final class LooksTest {
    private static final int LOW = Integer.MIN_VALUE;
    private static final int HIGH = Integer.MAX_VALUE;

    public static void main(String[] args) {
        promise19();
        promise20();
        promise20Colors();
        promise21();
        promise22();
        promise23();
        promise24();
        promise25();
        promise26();
        promise26Cliques();
        promise27();
        promise28();
        promise28Shares();
        Check.finish("LooksTest");
    }

    private static void promise19() {
        CliqueLabels x = Check.graph(4, 1, "02,13");
        Check.due("joined(0, 2)", x.joined(0, 2), 1);
        Check.due("joined(2, 0)", x.joined(2, 0), 1);
        Check.due("joined(0, 1)", x.joined(0, 1), 0);
        Check.due("joined(3, 3)", x.joined(3, 3), 0);
        Check.refused("joined(0, 4)", x, Check.INDEX, () -> x.joined(0, 4));
        Check.refused("joined(4, 0)", x, Check.INDEX, () -> x.joined(4, 0));
        Check.refused("joined(-1, 0)", x, Check.INDEX, () -> x.joined(-1, 0));
        Check.refused("joined(0, -1)", x, Check.INDEX, () -> x.joined(0, -1));
        Check.refused("joined(high, low)", x, Check.INDEX, () -> x.joined(HIGH, LOW));
        x.remove(0);
        Check.refused("joined(0, 3) of three", x, Check.INDEX, () -> x.joined(0, 3));
    }

    private static void promise20() {
        CliqueLabels x = Check.graph(5, 2, "01,12,02,23");
        Check.weights(x, 2, 3, 0, 9, 4);
        Check.labels(x, 1, -3, 4);
        Check.labels(x, 4, 9, -9);
        Check.handle(x, 2, -1);
        int[] weight = {2, 3, 0, 9, 4};
        int[] degree = {2, 2, 3, 1, 0};
        int[] square = {0, 25, 0, 0, 162};
        int[] held = {0, -10, 0, 0, 27};
        int[] color = {0, 1, 2, 0, 0};
        int[] clique = {5, 5, 9, 9, 4};
        int[][] wants = {weight, degree, square, held, color, clique};
        for (int v = 0; v < 5; v++) {
            for (int what = 0; what <= 5; what++) {
                Check.due("vertex(" + v + ", " + what + ")", x.vertex(v, what), wants[what][v]);
            }
        }
        Check.dueText("label 1", Check.label(x, 1), "-3 4 0 0");
        Check.dueText("label 4", Check.label(x, 4), "9 -9 0 0");
        Check.refused("vertex(5, 0)", x, Check.INDEX, () -> x.vertex(5, 0));
        Check.refused("vertex(-1, 0)", x, Check.INDEX, () -> x.vertex(-1, 0));
        for (int what : new int[] {-1, 6, 7, 8, 9, 14, LOW, HIGH}) {
            Check.refused("vertex(0, " + what + ")", x, Check.ARGUMENT, () -> x.vertex(0, what));
            Check.refused("vertex(5, " + what + ")", x, Check.INDEX, () -> x.vertex(5, what));
        }
        CliqueLabels four = Check.graph(1, 4, "");
        Check.labels(four, 0, 6, 7, 8, 9);
        Check.dueText("label at four places", Check.label(four, 0), "6 7 8 9");
        Check.due("square at four places", four.vertex(0, 2), 230);
        four.weigh(0, 0);
        Check.due("clique of weight 0", four.vertex(0, 5), 0);
    }

    private static void colors(int n, String edges, String want) {
        CliqueLabels x = Check.graph(n, 1, edges);
        StringBuilder got = new StringBuilder();
        for (int v = 0; v < n; v++) {
            got.append(x.vertex(v, 4));
        }
        Check.dueText("colors of " + n + " with " + edges, got.toString(), want);
        int most = 0;
        for (int k = 0; k < n; k++) {
            most = Math.max(most, want.charAt(k) - '0' + 1);
        }
        Check.due("color number of " + n + " with " + edges, x.count(6), most);
    }

    private static void promise20Colors() {
        colors(1, "", "0");
        colors(4, "", "0000");
        colors(4, "01,12,23", "0101");
        // the first fitting color for each vertex would take three colors
        colors(4, "02,23,13", "0110");
        colors(6, "03,05,12,14,25,34", "010101");
        colors(6, "05,12,15,24,34", "001101");
        colors(5, "01,12,23,34,04", "01012");
        colors(7, "01,12,23,34,45,56,06", "0101012");
        colors(4, "01,02,03,12,13,23", "0123");
        colors(8, "01,02,03,04,05,06,07,12,13,14,15,16,17,23,24,25,26,27,34,35,36,37,45,46,47,56,57,67", "01234567");
        colors(8, "05,06,07,14,16,17,24,25,27,34,35,36", "00001111");
        colors(6, "03,04,05,13,14,15,23,24,25", "000111");
    }

    private static void promise21() {
        CliqueLabels x = Check.graph(2, 4, "");
        Check.handle(x, -9, 9, 0, 5);
        int[] want = {-9, 9, 0, 5};
        for (int place = 0; place < 4; place++) {
            Check.due("handle(" + place + ")", x.handle(place), want[place]);
        }
        x.begin(2, 2);
        for (int place : new int[] {-1, 2, 3, LOW, HIGH}) {
            Check.refused("handle(" + place + ")", x, Check.INDEX, () -> x.handle(place));
        }
    }

    private static void bound(String what, CliqueLabels x, long above, long below, long teller) {
        Check.due(what + ": bound(0)", x.bound(0), above);
        Check.due(what + ": bound(1)", x.bound(1), below);
        Check.due(what + ": bound(2)", x.bound(2), teller);
    }

    private static void promise22() {
        CliqueLabels x = new CliqueLabels();
        bound("a new object", x, -1, -1, -1);
        Check.weights(x, 0, 0, 0, 0);
        bound("no weights", x, 0, 1, -1);
        x.join(0, 1, true);
        Check.labels(x, 0, 1, 0, 0);
        Check.labels(x, 1, 1, 0, 0);
        bound("no weights, labels do not fit", x, -1, -1, -1);
        x.join(0, 1, false);
        bound("no weights again", x, 0, 1, -1);
        x.begin(3, 2);
        Check.labels(x, 0, 1, 1);
        Check.labels(x, 1, -2, -2);
        Check.labels(x, 2, 3, 0);
        Check.handle(x, 1, 3);
        bound("three, the last one least by its label", x, 10, 1, 2);
        x.weigh(2, 0);
        bound("of several the lowest one", x, 5, 4, 0);
        x.weigh(1, 2);
        bound("by weight", x, 5, 2, 1);
        x.weigh(0, 2);
        bound("of several with weights", x, 5, 2, 0);
        x.label(2, 0, 0);
        bound("a label 0 without weight", x, 5, 2, 0);
        x.weigh(2, 1);
        bound("a label 0 with weight", x, -1, -1, -1);
        x.label(2, 0, 3);
        x.label(2, 1, -1);
        bound("a product 0", x, -1, -1, -1);
        x.weigh(2, 0);
        bound("without its weight", x, 5, 2, 0);
        Check.weights(x, 0, 0, 0);
        bound("no weights after a bound", x, 0, 1, -1);
        CliqueLabels great = Check.graph(2, 4, "");
        Check.labels(great, 0, 9, 9, 9, 9);
        Check.handle(great, 9, 9, 9, -9);
        Check.labels(great, 1, 9, 9, 9, 9);
        great.weigh(1, 9);
        bound("great numbers", great, 36, 1, 1);
        Check.labels(great, 1, 9, 9, -8, 9);
        bound("a product of 9", great, 11052, 1, 1);
    }

    private static void wrongParts(CliqueLabels x) {
        for (int part : new int[] {-1, 3, LOW, HIGH}) {
            Check.refused("bound(" + part + ")", x, Check.ARGUMENT, () -> x.bound(part));
            Check.refused("whyNot(" + part + ")", x, Check.ARGUMENT, () -> x.whyNot(part));
        }
    }

    private static void whyNot(String what, CliqueLabels x, int why, int first, int second) {
        Check.due(what + ": whyNot(0)", x.whyNot(0), why);
        Check.due(what + ": whyNot(1)", x.whyNot(1), first);
        Check.due(what + ": whyNot(2)", x.whyNot(2), second);
    }

    private static void promise23() {
        CliqueLabels x = Check.graph(5, 2, "");
        whyNot("labels 0", x, 2, 0, -1);
        wrongParts(x);
        for (int v = 0; v < 5; v++) {
            Check.labels(x, v, 1, v);
        }
        Check.handle(x, 3, -1);
        whyNot("the vertex 3 has the product 0", x, 2, 3, -1);
        x.weigh(3, 0);
        whyNot("without its weight", x, 0, -1, -1);
        wrongParts(x);
        x.join(3, 4, true);
        whyNot("a pair", x, 1, 3, 4);
        x.join(2, 4, true);
        whyNot("the lower vertex first", x, 1, 2, 4);
        x.join(3, 2, true);
        whyNot("then the greater one", x, 1, 2, 3);
        x.join(4, 0, true);
        whyNot("the lowest one", x, 1, 0, 4);
        Check.handle(x, 0, 0);
        whyNot("labels before the handle", x, 1, 0, 4);
        Check.labels(x, 0, 0, 0);
        whyNot("a label 0 fits", x, 1, 2, 3);
        Check.labels(x, 2, 3, -1);
        whyNot("labels fit with one", x, 1, 2, 4);
        Check.weights(x, 0, 0, 0, 0, 0);
        whyNot("no weights, labels do not fit", x, 1, 2, 4);
        x.begin(3, 3);
        Check.weights(x, 0, 0, 0);
        whyNot("no weights", x, 0, -1, -1);
    }

    private static void promise24() {
        CliqueLabels x = new CliqueLabels();
        for (int number : new int[] {-1, 2, LOW, HIGH}) {
            Check.refused("whyNotMultiply(" + number + ")", x, Check.INDEX, () -> x.whyNotMultiply(number));
        }
        Check.refused("whyNotMultiply(0) not taken", x, Check.STATE, () -> x.whyNotMultiply(0));
        x.take(0);
        Check.refused("whyNotMultiply(1) not taken", x, Check.STATE, () -> x.whyNotMultiply(1));
        Check.due("16 vertices", x.whyNotMultiply(0), 1);
        x.begin(2, 2);
        x.take(1);
        Check.due("dimension 6", x.whyNotMultiply(0), 2);
        long before = x.digest();
        Check.due("none", x.whyNotMultiply(1), 0);
        Check.due("whyNotMultiply changes nothing", x.digest(), before);
        x.weigh(0, 5);
        x.take(1);
        Check.due("weight 25", x.whyNotMultiply(1), 3);
        x.weigh(0, 3);
        Check.due("weight 15", x.whyNotMultiply(1), 3);
        x.weigh(0, 1);
        Check.due("weight 5", x.whyNotMultiply(1), 0);
        x.hold(1, -4);
        x.take(1);
        Check.due("handle 16", x.whyNotMultiply(1), 4);
        x.hold(1, 2);
        Check.due("handle -8, weight 1", x.whyNotMultiply(1), 0);
    }

    private static void best(String what, CliqueLabels x, int size, long above, long below, String numbers) {
        Check.due(what + ": above", x.bestHandle(size, 0), above);
        Check.due(what + ": below", x.bestHandle(size, 1), below);
        StringBuilder got = new StringBuilder();
        for (int k = 10; k <= 13; k++) {
            got.append(k == 10 ? "" : " ").append(x.bestHandle(size, k));
        }
        Check.dueText(what + ": numbers", got.toString(), numbers);
    }

    private static void promise25() {
        CliqueLabels x = new CliqueLabels();
        best("labels 0", x, 1, -1, -1, "0 0 0 0");
        best("labels 0, size 2", x, 2, -1, -1, "0 0 0 0");
        Check.weights(x, 0, 0, 0, 0);
        best("no weights", x, 1, 0, 1, "-1 -1 -1 0");
        best("no weights, size 2", x, 2, 0, 1, "-2 -2 -2 0");
        x.begin(2, 2);
        Check.labels(x, 0, 2, 4);
        Check.labels(x, 1, 1, 0);
        x.weigh(1, 0);
        best("one label", x, 1, 10, 9, "-1 -1 0 0");
        best("one label, size 2", x, 2, 1, 1, "-1 -2 0 0");
        x.weigh(1, 1);
        best("two labels", x, 1, 2, 1, "-1 -1 0 0");
        best("two labels, size 2", x, 2, 25, 16, "-2 -1 0 0");
        x.label(1, 0, -1);
        best("an unlike sign", x, 1, 2, 1, "-1 -1 0 0");
        Check.handle(x, 7, 7);
        long before = x.digest();
        x.bestHandle(2, 0);
        Check.due("bestHandle changes nothing", x.digest(), before);
        x.join(0, 1, true);
        best("labels do not fit", x, 2, -1, -1, "0 0 0 0");
        x.begin(3, 3);
        x.complement();
        for (int v = 0; v < 3; v++) {
            x.label(v, v, 1);
        }
        best("a corner", x, 1, 3, 1, "-1 -1 -1 0");
        x.weigh(2, 4);
        best("a corner with weights", x, 1, 12, 1, "-1 -1 -1 0");
        best("a corner with weights, size 2", x, 2, 6, 1, "-1 -1 -2 0");
        x.begin(1, 4);
        Check.labels(x, 0, 0, 0, 0, -5);
        best("the last place", x, 1, 1, 1, "0 0 0 -1");
        best("the last place, size 2", x, 2, 1, 1, "0 0 0 -2");
        for (int size : new int[] {0, 3, -1, LOW, HIGH}) {
            Check.refused("bestHandle(" + size + ", 0)", x, Check.ARGUMENT, () -> x.bestHandle(size, 0));
        }
        for (int what : new int[] {-1, 2, 9, 14, LOW, HIGH}) {
            Check.refused("bestHandle(1, " + what + ")", x, Check.ARGUMENT, () -> x.bestHandle(1, what));
        }
    }

    private static void promise26() {
        CliqueLabels x = Check.graph(6, 4, "01,12,02,34,45");
        Check.weights(x, 1, 2, 3, 6, 0, 0);
        Check.labels(x, 0, 1, 2);
        Check.labels(x, 1, 2, -1);
        Check.labels(x, 2, 0, 0, 1, 0);
        Check.labels(x, 3, 0, 1, 0, 0);
        Check.labels(x, 4, 0, 1, 1, 0);
        Check.labels(x, 5, 0, 0, 2, 0);
        Check.handle(x, 1, -2, 3, -4);
        int[] want = {6, 4, 5, 6, 7, 3, 3, 2, 30, 0, 0, 6};
        for (int what = 0; what <= 11; what++) {
            Check.due("count(" + what + ")", x.count(what), want[what]);
        }
        for (int what : new int[] {-1, 12, LOW, HIGH}) {
            Check.refused("count(" + what + ")", x, Check.ARGUMENT, () -> x.count(what));
        }
        x.take(1);
        Check.due("one snapshot", x.count(10), 1);
        x.take(0);
        Check.due("two snapshots", x.count(10), 2);
        x.take(0);
        Check.due("two snapshots still", x.count(10), 2);
    }

    private static void cliques(CliqueLabels x, String what, int weight, int mask, int most) {
        Check.due(what + ": count(3)", x.count(3), weight);
        Check.due(what + ": count(4)", x.count(4), mask);
        Check.due(what + ": count(5)", x.count(5), most);
    }

    private static void promise26Cliques() {
        CliqueLabels x = Check.graph(8, 1, "67,01,02,12");
        cliques(x, "a triangle", 3, 7, 3);
        Check.weights(x, 1, 1, 1, 3, 1, 1, 2, 1);
        cliques(x, "the lowest of three", 3, 7, 3);
        x.weigh(7, 2);
        cliques(x, "the highest pair", 4, 192, 3);
        Check.weights(x, 0, 0, 0, 0, 0, 0, 0, 0);
        cliques(x, "no weights", 0, 0, 3);
        x.weigh(2, 5);
        cliques(x, "no vertices of weight 0", 5, 4, 3);
        x.complement();
        cliques(x, "the complement", 5, 4, 5);
        x.begin(8, 1);
        x.complement();
        Check.weights(x, 9, 9, 9, 9, 9, 9, 9, 9);
        cliques(x, "all", 72, 255, 8);
        x.begin(1, 1);
        cliques(x, "one", 1, 1, 1);
    }

    private static void promise27() {
        CliqueLabels x = new CliqueLabels();
        Check.dueShare("no bound", x.nearness(), 0.0);
        Check.weights(x, 0, 0, 0, 0);
        Check.dueShare("the bound 0", x.nearness(), 0.0);
        x.begin(5, 3);
        x.labelByColors();
        Check.dueShare("one color", x.nearness(), 1.0);
        Check.type(x, "01,12,23,34,04");
        x.read();
        x.labelByColors();
        Check.dueShare("a ring of five", x.nearness(), 2.0 / 3.0);
        x.weigh(2, 5);
        Check.dueShare("a ring with a weight", x.nearness(), 6.0 / 15.0);
        x.begin(1, 2);
        Check.labels(x, 0, 7, 8);
        Check.handle(x, 9, -5);
        x.weigh(0, 3);
        double top = 3.0 * 529.0;
        Check.dueShare("one vertex", x.nearness(), top / (3.0 * 113 * 106));
        long before = x.digest();
        x.nearness();
        Check.due("nearness changes nothing", x.digest(), before);
    }

    /** The hash as the document tells it, made of the answers of all other calls. */
    static long digestByFace(CliqueLabels x, String buffer) {
        long hash = 2521;
        for (int what = 0; what <= 11; what++) {
            hash = 31 * hash + x.count(what);
        }
        int n = x.count(0);
        for (int v = 0; v < n; v++) {
            for (int what = 0; what <= 13; what = what == 5 ? 10 : what + 1) {
                hash = 31 * hash + x.vertex(v, what);
            }
            for (int other = 0; other < n; other++) {
                hash = 31 * hash + x.joined(v, other);
            }
        }
        int d = x.count(1);
        for (int place = 0; place < d; place++) {
            hash = 31 * hash + x.handle(place);
        }
        for (int part = 0; part <= 2; part++) {
            hash = 31 * hash + x.bound(part);
        }
        for (int what = 0; what <= 2; what++) {
            hash = 31 * hash + x.whyNot(what);
        }
        for (int what = 0; what <= 13; what = what == 1 ? 10 : what + 1) {
            hash = 31 * hash + x.bestHandle(1, what);
        }
        hash = 31 * hash + Double.doubleToLongBits(x.nearness());
        hash = 31 * hash + buffer.length();
        for (int k = 0; k < buffer.length(); k++) {
            hash = 31 * hash + buffer.charAt(k);
        }
        return hash;
    }

    private static void digest(String what, CliqueLabels x, String buffer) {
        Check.due("digest " + what, x.digest(), digestByFace(x, buffer));
    }

    private static void promise28() {
        CliqueLabels x = new CliqueLabels();
        digest("of a new object", x, "");
        Check.type(x, "01,23~!");
        digest("with a buffer", x, "01,23~!");
        x.begin(8, 4);
        x.labelByColors();
        x.take(1);
        digest("of eight with a snapshot", x, "01,23~!");
        Check.due("digest saves no state", x.count(11), 2);
        CliqueLabels y = Check.graph(8, 4, "");
        y.labelByColors();
        Check.type(y, "01,23,36,67,01,13");
        y.read();
        digest("with unfit labels", y, "");
        Check.due("digest with unfit labels: pairs", y.count(7), 5);
        y.labelByColors();
        Check.weights(y, 0, 9, 3, 2, 8);
        digest("with a share", y, "");
    }

    private static void promise28Shares() {
        digest("of one", Check.graph(1, 2, ""), "");
        for (int a = 1; a <= 9; a++) {
            for (int b = -9; b <= 9; b++) {
                CliqueLabels x = Check.graph(1, 2, "");
                Check.labels(x, 0, a, b);
                Check.handle(x, 1, 9 - a);
                digest("with labels " + a + " " + b, x, "");
            }
        }
        CliqueLabels none = Check.graph(1, 2, "");
        Check.weights(none, 9);
        Check.labels(none, 0, 9, -8);
        Check.handle(none, 8, 9);
        digest("without a bound", none, "");
    }
}

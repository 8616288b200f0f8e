/** What all tests share: answers that are due, refusals, and the making of graphs. */
final class Check {
    interface Call {
        long run();
    }

    static final Class<IllegalArgumentException> ARGUMENT = IllegalArgumentException.class;
    static final Class<IllegalStateException> STATE = IllegalStateException.class;
    static final Class<IndexOutOfBoundsException> INDEX = IndexOutOfBoundsException.class;

    private static int wrong = 0;
    private static int checks = 0;

    private Check() {
    }

    static void due(String what, long got, long want) {
        checks++;
        if (got != want) {
            fail(what + " answered " + got + ", due is " + want);
        }
    }

    static void dueShare(String what, double got, double want) {
        checks++;
        if (Double.compare(got, want) != 0) {
            fail(what + " answered " + got + ", due is " + want);
        }
    }

    /** The call throws just this exception, and the state is as before. */
    static void refused(String what, CliqueLabels x, Class<? extends RuntimeException> kind, Call call) {
        checks++;
        long before = x.digest();
        try {
            long got = call.run();
            fail(what + " answered " + got + ", due is " + kind.getName());
        } catch (RuntimeException e) {
            if (e.getClass() != kind) {
                fail(what + " threw " + e + ", due is " + kind.getName());
            }
        }
        due(what + ": digest after the refusal", x.digest(), before);
    }

    /** The call answers as due, saves one state, and an undo brings back all that was before. */
    static void undoable(String what, CliqueLabels x, long want, Call call) {
        int saved = x.count(11);
        long before = x.digest();
        due(what, call.run(), want);
        due(what + ": saved states", x.count(11), Math.min(6, saved + 1));
        long after = x.digest();
        if (saved == 6) {
            return;
        }
        due(what + ": undo", x.undo(), saved);
        due(what + ": digest after undo", x.digest(), before);
        due(what + ", again", call.run(), want);
        due(what + ": digest, again", x.digest(), after);
    }

    /** What throws is told as an answer too. */
    static String answer(Call call) {
        try {
            return Long.toString(call.run());
        } catch (RuntimeException e) {
            return "throws." + e.getClass().getSimpleName();
        }
    }

    static void fail(String what) {
        wrong++;
        System.out.println("WRONG: " + what);
    }

    static void finish(String name) {
        System.out.println(name + ": " + checks + " checks, " + wrong + " wrong");
        if (wrong != 0) {
            System.exit(1);
        }
    }

    /** A graph with edges as in "01,12". */
    static CliqueLabels graph(int n, int d, String edges) {
        CliqueLabels x = new CliqueLabels();
        x.begin(n, d);
        for (int k = 0; k + 1 < edges.length(); k += 3) {
            x.join(edges.charAt(k) - '0', edges.charAt(k + 1) - '0', true);
        }
        return x;
    }

    static void labels(CliqueLabels x, int vertex, int... numbers) {
        for (int place = 0; place < numbers.length; place++) {
            x.label(vertex, place, numbers[place]);
        }
    }

    static void handle(CliqueLabels x, int... numbers) {
        for (int place = 0; place < numbers.length; place++) {
            x.hold(place, numbers[place]);
        }
    }

    static void weights(CliqueLabels x, int... weights) {
        for (int v = 0; v < weights.length; v++) {
            x.weigh(v, weights[v]);
        }
    }

    static void type(CliqueLabels x, String text) {
        for (int k = 0; k < text.length(); k++) {
            x.append(text.charAt(k));
        }
    }

    static void retype(CliqueLabels x, String text) {
        x.clearBuffer();
        type(x, text);
    }

    /** The joined pairs, as in "01,12"; joined has to answer the same both ways round, and count(2) their number. */
    static String edges(CliqueLabels x) {
        StringBuilder all = new StringBuilder();
        int n = x.count(0);
        for (int a = 0; a < n; a++) {
            for (int b = a; b < n; b++) {
                int is = x.joined(a, b);
                if (is == 1) {
                    all.append(all.length() == 0 ? "" : ",").append(a).append(b);
                }
                if (x.joined(b, a) != is) {
                    all.append(" but not ").append(b).append(a);
                }
            }
        }
        int number = x.count(2);
        if (number != (all.length() + 1) / 3) {
            all.append(" but count(2) is ").append(number);
        }
        return all.toString();
    }

    static String weights(CliqueLabels x) {
        StringBuilder all = new StringBuilder();
        int n = x.count(0);
        for (int v = 0; v < n; v++) {
            all.append(v == 0 ? "" : " ").append(x.vertex(v, 0));
        }
        return all.toString();
    }

    /** The label of a vertex at all four places. */
    static String label(CliqueLabels x, int vertex) {
        StringBuilder all = new StringBuilder();
        for (int what = 10; what <= 13; what++) {
            all.append(what == 10 ? "" : " ").append(x.vertex(vertex, what));
        }
        return all.toString();
    }

    static String handle(CliqueLabels x) {
        StringBuilder all = new StringBuilder();
        int d = x.count(1);
        for (int place = 0; place < d; place++) {
            all.append(place == 0 ? "" : " ").append(x.handle(place));
        }
        return all.toString();
    }

    static void dueText(String what, String got, String want) {
        checks++;
        if (!got.equals(want)) {
            fail(what + " answered \"" + got + "\", due is \"" + want + "\"");
        }
    }
}

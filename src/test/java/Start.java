import java.util.ArrayList;

/** A state to begin with, made anew for each call; after the call all that the object holds is compared. */
final class Start {
    interface Maker {
        CliqueLabels make();
    }

    interface Call {
        long on(CliqueLabels x);
    }

    static final String ROW_OF_59 = "01,02,03,04,05,06,07,12,13,14,15,16,17,23,24,25,26,27,34,67";

    static final Start NEW = new Start("new", () -> new CliqueLabels());
    static final Start LEAST = new Start("least", () -> Check.graph(1, 1, ""));
    static final Start SOME = new Start("some", () -> some());
    static final Start FULL = new Start("full", () -> full());
    private static final Start[] ALL = {NEW, LEAST, SOME, FULL};

    private static final int MOST_SAVED = 6;

    private final String name;
    private final Maker maker;
    private String story = "";

    Start(String name, Maker maker) {
        this.name = name;
        this.maker = maker;
    }

    private static CliqueLabels some() {
        CliqueLabels x = new CliqueLabels();
        x.begin(5, 2);
        x.take(0);
        Check.type(x, "01,12,34");
        x.read();
        x.labelByColors();
        x.weigh(4, 3);
        Check.type(x, "01,1");
        return x;
    }

    /** Eight joined vertices, all numbers as far as they go, the buffer full, six saved states, both snapshots. */
    private static CliqueLabels full() {
        CliqueLabels x = new CliqueLabels();
        x.begin(1, 1);
        x.label(0, 0, 1);
        x.hold(0, -1);
        x.take(1);
        x.multiply(1);
        x.begin(8, 4);
        x.complement();
        x.take(0);
        for (int v = 0; v < 8; v++) {
            x.weigh(v, 9);
            Check.labels(x, v, 9, -9, 9, v);
        }
        Check.handle(x, 9, 9, -9, -9);
        Check.type(x, ROW_OF_59 + ",");
        return x;
    }

    CliqueLabels make() {
        return maker.make();
    }

    /** In each of the four states the call throws just this exception, and changes nothing. */
    static void refusedInAll(String what, Class<? extends RuntimeException> kind, Call call) {
        for (Start start : ALL) {
            start.refused(what, kind, call);
        }
    }

    /** The call throws just this exception, and changes nothing. */
    void refused(String what, Class<? extends RuntimeException> kind, Call call) {
        CliqueLabels x = maker.make();
        Check.dueText(name + ": " + what, Check.answer(() -> call.on(x)), "throws." + kind.getSimpleName());
        Check.dueText(name + ": " + what + ": all after it", storyOf(x), story());
    }

    /** The call answers as due, and changes nothing. */
    void looks(String what, long want, Call call) {
        CliqueLabels x = maker.make();
        Check.due(name + ": " + what, call.on(x), want);
        Check.dueText(name + ": " + what + ": all after it", storyOf(x), story());
    }

    void undoable(String what, long want, Call call) {
        undoable(what, want, call, y -> 0);
    }

    /** The call answers as due and saves one state; undo brings back all, but for what a second call does too. */
    void undoable(String what, long want, Call call, Call notUndone) {
        CliqueLabels x = maker.make();
        int saved = x.count(11);
        Check.due(name + ": " + what, call.on(x), want);
        Check.due(name + ": " + what + ": saved states", x.count(11), Math.min(MOST_SAVED, saved + 1));
        Check.due(name + ": " + what + ": undo", x.undo(), Math.min(MOST_SAVED - 1, saved));
        CliqueLabels y = maker.make();
        notUndone.on(y);
        if (saved == MOST_SAVED) {
            // the oldest one is dropped
            y.weigh(0, 0);
            y.undo();
        }
        Check.dueText(name + ": " + what + ": all after undo", storyOf(x), storyOf(y));
    }

    private String story() {
        if (story.isEmpty()) {
            story = storyOf(maker.make());
        }
        return story;
    }

    /** What is seen first; then the saved states one by one, and the snapshots: the object is used up by it. */
    private static String storyOf(CliqueLabels x) {
        StringBuilder all = new StringBuilder();
        all.append(Check.edges(x)).append("; ").append(Check.weights(x)).append("; ").append(Check.handle(x));
        int n = x.count(0);
        for (int v = 0; v < n; v++) {
            all.append("; ").append(Check.label(x, v));
        }
        for (int what = 0; what <= 11; what++) {
            all.append(what == 0 ? "; " : " ").append(x.count(what));
        }
        for (int what = 0; what <= 13; what = what == 1 ? 10 : what + 1) {
            all.append(what == 0 ? "; " : " ").append(x.bestHandle(2, what));
        }
        all.append("; ").append(x.firstError()).append(' ').append(x.digest());
        for (int k = 0; k <= MOST_SAVED; k++) {
            all.append("; ").append(Check.answer(() -> x.undo())).append(' ').append(x.digest());
        }
        for (int k = 0; k <= 1; k++) {
            int number = k;
            all.append("; ").append(Check.answer(() -> x.restore(number))).append(' ').append(x.digest());
        }
        return all.toString();
    }

    /** Numbers beyond both ends: the next ones, the furthest ones, and those that a shift or a shorter type takes for
     *  one between them. */
    static int[] beyond(int low, int high) {
        int[] tries = {low - 1, high + 1, low - 2, high + 2, Integer.MIN_VALUE, Integer.MAX_VALUE, -high - 1,
            low + 32, high + 64, low + 256, high - 256, low + 65536, Integer.MIN_VALUE + low};
        ArrayList<Integer> found = new ArrayList<>();
        for (int number : tries) {
            if (number < low || number > high) {
                found.add(number);
            }
        }
        int[] all = new int[found.size()];
        for (int k = 0; k < all.length; k++) {
            all[k] = found.get(k);
        }
        return all;
    }
}

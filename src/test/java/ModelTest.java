/** Many runs of calls, right and wrong ones, on the class and on the model at once: each answer is the same. */
public final class ModelTest {
    /** The document promises nothing about later calls. */
    private static final int CALLS = 512;
    private static final int CALLS_OF_ONE_STEP = 14;
    private static final int[] ODD = {Integer.MIN_VALUE, Integer.MAX_VALUE, -1, 10, -10, 60, 8, 9, 5, 14};

    private long seed;
    private int calls = 0;
    private CliqueLabels real;
    private Model model;

    public static void main(String[] args) {
        int runs = args.length > 0 ? Integer.parseInt(args[0]) : 400;
        for (int run = 0; run < runs; run++) {
            new ModelTest().run(run);
        }
        everyGraphOfFour();
        Check.finish("ModelTest");
    }

    /** A fixed row of numbers for each run, the same at all times. */
    private int pick(int below) {
        seed = seed * 6364136223846793005L + 1442695040888963407L;
        return (int) ((seed >>> 33) % below);
    }

    private int number(int from, int to) {
        return pick(40) == 0 ? ODD[pick(ODD.length)] : from + pick(to - from + 1);
    }

    private void run(int run) {
        seed = run * 7919L + 17;
        pick(2);
        real = new CliqueLabels();
        model = new Model();
        int style = run % 4;
        for (int k = 0; calls < CALLS - CALLS_OF_ONE_STEP; k++) {
            int kind = pick(100);
            if (kind < 60) {
                change(run, k, style);
            } else if (kind < 97) {
                look(run, k);
            } else {
                compare("digest", run, k, () -> real.digest(), () -> model.digest());
            }
        }
        compare("digest", run, CALLS, () -> real.digest(), () -> model.digest());
        if (calls > CALLS) {
            Check.fail("run " + run + " makes " + calls + " calls");
        }
    }

    private void compare(String what, int run, int k, Check.Call mine, Check.Call due) {
        calls++;
        Check.dueText("run " + run + ", call " + k + ": " + what, Check.answer(mine), Check.answer(due));
    }

    private void change(int run, int k, int style) {
        int n = model.count(0);
        int d = model.count(1);
        int a = number(0, n - 1);
        int b = number(0, n - 1);
        int s = number(0, 1);
        int reach = style == 0 ? 9 : style == 1 ? 1 : 2;
        int value = number(-reach, reach);
        int kind = pick(style == 3 ? 70 : 100);
        if (kind < 4) {
            int size = style == 2 ? number(1, 3) : number(1, 8);
            int places = style == 2 ? number(1, 2) : number(1, 4);
            compare("begin " + size + " " + places, run, k,
                () -> real.begin(size, places), () -> model.begin(size, places));
        } else if (kind < 16) {
            boolean is = pick(3) > 0;
            compare("join " + a + " " + b + " " + is, run, k, () -> real.join(a, b, is), () -> model.join(a, b, is));
        } else if (kind < 24) {
            int weight = number(0, style == 0 ? 9 : 2);
            compare("weigh " + a + " " + weight, run, k, () -> real.weigh(a, weight), () -> model.weigh(a, weight));
        } else if (kind < 26) {
            compare("complement", run, k, () -> real.complement(), () -> model.complement());
        } else if (kind < 29) {
            compare("remove " + a, run, k, () -> real.remove(a), () -> model.remove(a));
        } else if (kind < 34) {
            compare("multiply " + s, run, k, () -> real.multiply(s), () -> model.multiply(s));
        } else if (kind < 39) {
            compare("labelByColors", run, k, () -> real.labelByColors(), () -> model.labelByColors());
        } else if (kind < 43) {
            int size = number(1, 2);
            compare("takeHandle " + size, run, k, () -> real.takeHandle(size), () -> model.takeHandle(size));
        } else if (kind < 47) {
            compare("take " + s, run, k, () -> real.take(s), () -> model.take(s));
        } else if (kind < 51) {
            compare("restore " + s, run, k, () -> real.restore(s), () -> model.restore(s));
        } else if (kind < 61) {
            compare("undo", run, k, () -> real.undo(), () -> model.undo());
        } else if (kind < 70) {
            type(run, k, n);
        } else if (kind < 88) {
            int place = number(0, d - 1);
            compare("label " + a + " " + place + " " + value, run, k,
                () -> real.label(a, place, value), () -> model.label(a, place, value));
        } else {
            int place = number(0, d - 1);
            compare("hold " + place + " " + value, run, k,
                () -> real.hold(place, value), () -> model.hold(place, value));
        }
    }

    private void put(int run, int k, int code) {
        compare("append " + code, run, k, () -> real.append(code), () -> model.append(code));
    }

    /** Mostly right rows of edges, some with a slip, at times read or cleared. */
    private void type(int run, int k, int n) {
        int edges = pick(4);
        for (int e = 0; e < edges && n > 1; e++) {
            int low = pick(n - 1);
            int high = low + 1 + pick(n - 1 - low);
            put(run, k, '0' + low);
            put(run, k, pick(30) == 0 ? 33 + pick(94) : '0' + high);
            if (e + 1 < edges || pick(4) == 0) {
                put(run, k, pick(30) == 0 ? '.' : ',');
            }
        }
        if (pick(12) == 0) {
            put(run, k, ODD[pick(ODD.length)]);
        }
        compare("firstError", run, k, () -> real.firstError(), () -> model.firstError());
        if (pick(3) > 0) {
            compare("read", run, k, () -> real.read(), () -> model.read());
        }
        if (pick(3) > 0) {
            compare("clearBuffer", run, k, () -> real.clearBuffer(), () -> model.clearBuffer());
        }
    }

    private void look(int run, int k) {
        int n = model.count(0);
        int a = number(0, n - 1);
        int b = number(0, n - 1);
        int part = number(0, 2);
        int s = number(0, 1);
        int size = number(1, 2);
        int many = number(0, 13);
        switch (pick(9)) {
            case 0:
                compare("joined " + a + " " + b, run, k, () -> real.joined(a, b), () -> model.joined(a, b));
                break;
            case 1:
                compare("vertex " + a + " " + many, run, k, () -> real.vertex(a, many), () -> model.vertex(a, many));
                break;
            case 2:
                compare("handle " + part, run, k, () -> real.handle(part), () -> model.handle(part));
                break;
            case 3:
                compare("bound " + part, run, k, () -> real.bound(part), () -> model.bound(part));
                break;
            case 4:
                compare("whyNot " + part, run, k, () -> real.whyNot(part), () -> model.whyNot(part));
                break;
            case 5:
                compare("whyNotMultiply " + s, run, k, () -> real.whyNotMultiply(s), () -> model.whyNotMultiply(s));
                break;
            case 6:
                compare("bestHandle " + size + " " + many, run, k,
                    () -> real.bestHandle(size, many), () -> model.bestHandle(size, many));
                break;
            case 7:
                compare("count " + many, run, k, () -> real.count(many), () -> model.count(many));
                break;
            default:
                compare("nearness", run, k, () -> Double.doubleToLongBits(real.nearness()),
                    () -> Double.doubleToLongBits(model.nearness()));
        }
    }

    /** All graphs of four and five vertices, with weights that differ: colors, cliques, removals, complements. */
    private static void everyGraphOfFour() {
        for (int n = 4; n <= 5; n++) {
            int pairs = n * (n - 1) / 2;
            for (int mask = 0; mask < 1 << pairs; mask++) {
                ModelTest test = new ModelTest();
                test.real = new CliqueLabels();
                test.model = new Model();
                test.oneGraph(n, mask);
            }
        }
    }

    private void oneGraph(int n, int mask) {
        real.begin(n, 4);
        model.begin(n, 4);
        int bit = 0;
        for (int a = 0; a < n; a++) {
            int weight = (a * 5 + mask) % 4;
            compare("weigh", mask, a, () -> real.weigh(weight % 4, weight), () -> model.weigh(weight % 4, weight));
            for (int b = a + 1; b < n; b++) {
                int x = a;
                int y = b;
                boolean is = (mask >> bit) % 2 == 1;
                compare("join", mask, bit, () -> real.join(x, y, is), () -> model.join(x, y, is));
                bit++;
            }
        }
        compare("labelByColors", mask, bit, () -> real.labelByColors(), () -> model.labelByColors());
        compare("digest", mask, bit, () -> real.digest(), () -> model.digest());
        compare("complement", mask, bit, () -> real.complement(), () -> model.complement());
        compare("digest", mask, bit, () -> real.digest(), () -> model.digest());
        compare("remove", mask, bit, () -> real.remove(mask % n), () -> model.remove(mask % n));
        compare("digest", mask, bit, () -> real.digest(), () -> model.digest());
    }
}

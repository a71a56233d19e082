import java.util.Arrays;

/** Promises 1 to 17 together: made-up runs of 512 calls, each answer compared with that of the Model. */
public final class ModelTest {
    private static final int RUNS = 600;
    private static final int LENGTH = 512;
    private static final int SETUP = 30;
    /** From here on a run only reads, to see what the calls before have left. */
    private static final int READING = 372;
    private static final int[] EDGES = {Integer.MIN_VALUE, -2, -1, 0, 1, 7, 8, 31, 32, 60, 120, 999, 1000, 100_000_000, Integer.MAX_VALUE};

    private static long seed;
    /** How often each method answered, and how often it refused in each of the ways. */
    private static final int[][] SEEN = new int[16][6];
    private static final int[] HOW = new int[6];
    private static final int[] AGREED = new int[3];

    private CallJoin x;
    private Model model;
    private int time;
    private int field;
    private int lines;

    public static void main(String[] args) {
        Due.of("promises 1 to 17, against the model");
        for (int run = 0; run < RUNS; run++) {
            seed = 7919L * run + 17;
            new ModelTest().play(run);
        }
        everythingWasSeen();
        Due.end();
    }

    private void play(int run) {
        x = new CallJoin();
        model = new Model();
        field = pick(new int[] {60, 300, 1200, 9999});
        lines = pick(new int[] {5, 40, 1000});
        int eager = below(3);
        for (int i = 0; i < LENGTH; i++) {
            int method = chooseMethod(i, eager);
            int[] a = arguments(method);
            if (below(25) == 0) {
                a[below(a.length)] = pick(EDGES);
            }
            compare(run, i, method, a);
        }
    }

    private int chooseMethod(int i, int eager) {
        if (i < SETUP) {
            return pick(new int[] {0, 1, 2, 2, 2});
        }
        if (i >= READING) {
            return pick(new int[] {4, 10, 11, 12, 12, 12, 13, 13, 13, 14, 14, 15});
        }
        return below(4) < eager ? pick(new int[] {3, 3, 3, 4, 8, 6, 7}) : below(16);
    }

    private int[] arguments(int method) {
        int call = below(model.calls.size() + 1);
        int event = below(model.events.size() + 1);
        switch (method) {
            case 0:
                return new int[] {kind(), below(2 * field), below(900), below(4), 1 + below(4)};
            case 1:
                return new int[] {kind(), below(32), pick(new int[] {0, 1, 2, 100, below(101)})};
            case 2:
                return new int[] {pick(new int[] {0, 1, 1, below(8)}), place()};
            case 3:
            case 4:
                return newCall();
            case 5:
                return new int[] {call, pick(new int[] {0, 0, 1, 2, 3, 4, 5, 8})};
            case 6:
                return new int[] {call};
            case 7:
                return new int[] {event, call};
            case 8:
                return new int[] {event, below(3), below(8), below(8)};
            case 9:
                return new int[] {event, pick(new int[] {0, 0, 0, 1, 2, 3})};
            case 10:
            case 11:
                return new int[] {call, below(model.calls.size() + 1)};
            case 12:
                return new int[] {call, below(6)};
            case 13:
                return new int[] {event, below(8)};
            case 14:
                return new int[] {event, below(5)};
            default:
                return new int[] {below(5)};
        }
    }

    private int[] newCall() {
        int point = below(3) == 0 ? -1 : place();
        int words = below(4) == 0 ? 0 : pick(new int[] {below(16), below(16) << 28, below(4), below(Integer.MAX_VALUE)});
        return new int[] {below(lines), kind(), point, words, below(3) - 1, time + pick(new int[] {0, 1, 30, 200, -1 + below(3)})};
    }

    private int kind() {
        return pick(new int[] {0, 0, 1, 1, below(8)});
    }

    private int place() {
        return Due.at(below(field + 1), below(field + 1));
    }

    private void compare(int run, int i, int method, int[] a) {
        String want = Due.answer(() -> ask(model, method, a));
        String got = Due.answer(() -> ask(x, method, a));
        Due.same("run " + run + ", call " + i + ", method " + method + Arrays.toString(a), want, got);
        note(method, a, want);
    }

    private void note(int method, int[] a, String want) {
        int way = Arrays.asList(Due.UNKNOWN, Due.RANGE, Due.STATE, Due.ROOM, Due.NO_SHARE).indexOf(want) + 1;
        SEEN[method][way]++;
        if (method == 3 && way == 0) {
            time = Math.min(a[5], 1_000_000_000);
            HOW[model.callAt(Integer.parseInt(want), 4)]++;
        }
        if (method == 7 && way == 0) {
            HOW[5]++;
        }
        if (method == 11 && way == 0) {
            AGREED[Integer.parseInt(want)]++;
        }
    }

    /** Runs that never reach a rule would prove nothing of it. */
    private static void everythingWasSeen() {
        int[][] ways = {{0, 1, 2}, {0, 1, 2}, {0, 1, 2, 4}, {0, 1, 2, 4}, {0, 1, 2}, {0, 1, 2}, {0, 1, 3, 4}, {0, 1, 3},
            {0, 1, 2, 3}, {0, 1, 2, 3}, {0, 1, 5}, {0, 1}, {0, 1}, {0, 1}, {0, 1, 2}, {0, 1}};
        for (int method = 0; method < ways.length; method++) {
            for (int way : ways[method]) {
                seen("method " + method + ", way " + way, SEEN[method][way]);
            }
        }
        for (int how = 0; how < HOW.length; how++) {
            seen("joined, way " + how, HOW[how]);
        }
        for (int how = 0; how < AGREED.length; how++) {
            seen("agreed, way " + how, AGREED[how]);
        }
    }

    private static void seen(String what, int times) {
        Due.holds(what + " was seen", times >= 10);
    }

    private static int ask(Model m, int method, int[] a) {
        switch (method) {
            case 0: return m.rule(a[0], a[1], a[2], a[3], a[4]);
            case 1: return m.weight(a[0], a[1], a[2]);
            case 2: return m.point(a[0], a[1]);
            case 3: return m.call(a[0], a[1], a[2], a[3], a[4], a[5]);
            case 4: return m.reasonFor(a[0], a[1], a[2], a[3], a[4], a[5]);
            case 5: return m.mark(a[0], a[1]);
            case 6: return m.split(a[0]);
            case 7: return m.merge(a[0], a[1]);
            case 8: return m.watch(a[0], a[1], a[2], a[3]);
            case 9: return m.state(a[0], a[1]);
            case 10: return m.share(a[0], a[1]);
            case 11: return m.agree(a[0], a[1]);
            case 12: return m.callAt(a[0], a[1]);
            case 13: return m.eventAt(a[0], a[1]);
            case 14: return m.member(a[0], a[1]);
            default: return m.count(a[0]);
        }
    }

    private static int ask(CallJoin x, int method, int[] a) {
        switch (method) {
            case 0: x.rule(a[0], a[1], a[2], a[3], a[4]); return 0;
            case 1: x.weight(a[0], a[1], a[2]); return 0;
            case 2: return x.point(a[0], a[1]);
            case 3: return x.call(a[0], a[1], a[2], a[3], a[4], a[5]);
            case 4: return x.reasonFor(a[0], a[1], a[2], a[3], a[4], a[5]);
            case 5: x.mark(a[0], a[1]); return 0;
            case 6: return x.split(a[0]);
            case 7: return x.merge(a[0], a[1]);
            case 8: x.watch(a[0], a[1], a[2], a[3]); return 0;
            case 9: x.state(a[0], a[1]); return 0;
            case 10: return x.share(a[0], a[1]);
            case 11: return x.agree(a[0], a[1]);
            case 12: return x.callAt(a[0], a[1]);
            case 13: return x.eventAt(a[0], a[1]);
            case 14: return x.member(a[0], a[1]);
            default: return x.count(a[0]);
        }
    }

    private static int pick(int[] from) {
        return from[below(from.length)];
    }

    /** A row of numbers that is the same in every run of the test. */
    private static int below(int bound) {
        seed = seed * 6364136223846793005L + 1442695040888963407L;
        return (int) ((seed >>> 33) % bound);
    }
}

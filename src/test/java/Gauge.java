import java.util.Arrays;

/** Tells a kind's rule from outside, on both sides of each of its numbers. */
final class Gauge {
    private Gauge() {
    }

    /** One call, 0, of the kind, with all words, in the corner, at time 0. */
    static CallJoin forRule(int kind) {
        CallJoin x = new CallJoin();
        x.call(1, kind, 0, -1, -1, 0);
        return x;
    }

    /** The need is told as how many of 32 words are enough. */
    static void rule(String what, CallJoin x, int kind, int distance, int span, int need) {
        distance(what, x, kind, distance);
        span(what, x, kind, span);
        need(what, x, kind, need);
    }

    static void distance(String what, CallJoin x, int kind, int distance) {
        Due.is(what + ": just at the distance", 0, () -> x.reasonFor(2, kind, Due.at(distance, 0), -1, -1, 0));
        Due.is(what + ": just above it", -1, () -> x.reasonFor(2, kind, Due.at(distance, 1), -1, -1, 0));
    }

    static void span(String what, CallJoin x, int kind, int span) {
        Due.is(what + ": just at the span", 0, () -> x.reasonFor(1, kind, -1, 0, -1, span));
        Due.is(what + ": just above it", -1, () -> x.reasonFor(1, kind, -1, 0, -1, span + 1));
    }

    static void need(String what, CallJoin x, int kind, int need) {
        Due.is(what + ": just at the need", 0, () -> x.reasonFor(2, kind, 0, words(need), -1, 0));
        if (need > 0) {
            Due.is(what + ": just below it", -1, () -> x.reasonFor(2, kind, 0, words(need - 1), -1, 0));
        }
    }

    static int words(int howMany) {
        return howMany == 32 ? -1 : (1 << howMany) - 1;
    }

    /** Call 0 has all words; call 1 + w has the word w alone. */
    static CallJoin forWeights(int kind) {
        CallJoin x = new CallJoin();
        x.call(0, kind, -1, -1, -1, 0);
        for (int word = 0; word < 32; word++) {
            x.call(1 + word, kind, -1, 1 << word, -1, 0);
        }
        return x;
    }

    static int[] ones() {
        int[] weights = new int[32];
        Arrays.fill(weights, 1);
        return weights;
    }

    static int[] onesBut(int word, int weight) {
        int[] weights = ones();
        weights[word] = weight;
        return weights;
    }

    static void weights(String what, CallJoin x, int[] want) {
        int sum = Arrays.stream(want).sum();
        for (int word = 0; word < 32; word++) {
            int call = 1 + word;
            Due.is(what + ": word " + word, 1000 * want[word] / sum, () -> x.share(0, call));
        }
    }
}

/** Promise 3: "A word's weight (0 .. 100) for a kind." */
public final class Promise03WeightTest {
    private static final int LOW = Integer.MIN_VALUE;
    private static final int HIGH = Integer.MAX_VALUE;

    public static void main(String[] args) {
        Due.of("promise 3, weight");
        leastWeight();
        greatestWeight();
        everyKindAndWordHasItsOwn();
        allAtTheGreatest();
        noneAtAll();
        weightCountsFromNowOn();
        unknownKinds();
        unknownWords();
        weightsOutOfRange();
        unknownGoesBeforeRange();
        Due.end();
    }

    private static void leastWeight() {
        for (int word : new int[] {0, 17, 31}) {
            CallJoin x = Gauge.forWeights(2);
            x.weight(2, word, 0);
            Gauge.weights("word " + word + " at 0", x, Gauge.onesBut(word, 0));
            CallJoin y = Gauge.forWeights(2);
            y.weight(2, word, 1);
            Gauge.weights("word " + word + " at 1", y, Gauge.ones());
        }
    }

    private static void greatestWeight() {
        for (int word : new int[] {0, 17, 31}) {
            CallJoin x = Gauge.forWeights(2);
            x.weight(2, word, 100);
            Gauge.weights("word " + word + " at 100", x, Gauge.onesBut(word, 100));
        }
    }

    private static void everyKindAndWordHasItsOwn() {
        for (int kind = 0; kind < 8; kind++) {
            CallJoin x = Gauge.forWeights(kind);
            int[] want = new int[32];
            for (int word = 0; word < 32; word++) {
                want[word] = 3 * word + kind;
                x.weight(kind, word, 3 * word + kind);
                x.weight((kind + 1) % 8, word, 99);
                x.weight((kind + 7) % 8, word, 98);
            }
            Gauge.weights("kind " + kind, x, want);
        }
    }

    private static void allAtTheGreatest() {
        CallJoin x = Gauge.forWeights(7);
        int[] want = new int[32];
        for (int word = 0; word < 32; word++) {
            want[word] = 100;
            x.weight(7, word, 100);
        }
        Gauge.weights("100 of 3,200", x, want);
    }

    private static void noneAtAll() {
        CallJoin x = Gauge.forWeights(7);
        for (int word = 0; word < 31; word++) {
            x.weight(7, word, 0);
        }
        Due.is("the last word that weighs", 1000, () -> x.share(0, 32));
        Due.refuses("two words without weight have no share", Due.NO_SHARE, () -> x.share(1, 2));
        x.weight(7, 31, 0);
        Due.refuses("no word weighs", Due.NO_SHARE, () -> x.share(0, 32));
    }

    private static void weightCountsFromNowOn() {
        CallJoin x = new CallJoin();
        x.call(1, 0, -1, 3, -1, 0);
        x.call(2, 0, -1, 1, -1, 0);
        x.weight(0, 1, 100);
        Due.is("a call that was joined stays so", 0, () -> x.callAt(1, 1));
        Due.is("but they do not agree any more", 0, () -> x.agree(0, 1));
        x.weight(0, 1, 1);
        Due.is("and do again", 2, () -> x.agree(0, 1));
    }

    private static void refused(String what, String exception, Sight.Change change) {
        for (int kind = 0; kind < 8; kind++) {
            CallJoin x = Gauge.forWeights(kind);
            Due.refuses(what, exception, () -> change.to(x));
            Gauge.weights(what + " leaves kind " + kind, x, Gauge.ones());
        }
        Sight.unchanged(what, Sample::mixed, change);
    }

    private static void unknownKinds() {
        for (int kind : new int[] {-1, 8, LOW, HIGH}) {
            refused("kind " + kind, Due.UNKNOWN, x -> x.weight(kind, 0, 50));
            refused("kind " + kind, Due.UNKNOWN, x -> x.weight(kind, 31, 50));
        }
    }

    private static void unknownWords() {
        for (int word : new int[] {-1, 32, LOW, HIGH}) {
            refused("word " + word, Due.UNKNOWN, x -> x.weight(0, word, 50));
            refused("word " + word, Due.UNKNOWN, x -> x.weight(7, word, 50));
            refused("word " + word, Due.UNKNOWN, x -> x.weight(3, word, 50));
        }
    }

    private static void weightsOutOfRange() {
        for (int weight : new int[] {-1, 101, LOW, HIGH}) {
            refused("weight " + weight, Due.RANGE, x -> x.weight(0, 0, weight));
            refused("weight " + weight, Due.RANGE, x -> x.weight(7, 31, weight));
        }
    }

    private static void unknownGoesBeforeRange() {
        refused("unknown kind, weight", Due.UNKNOWN, x -> x.weight(8, 0, 101));
        refused("unknown word, weight", Due.UNKNOWN, x -> x.weight(0, 32, -1));
    }
}

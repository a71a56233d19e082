/** Promise 12: "1,000 times the share of two calls by the weights of the later one's kind, rounded down." */
public final class Promise12ShareTest {
    private static final int LOW = Integer.MIN_VALUE;
    private static final int HIGH = Integer.MAX_VALUE;

    public static void main(String[] args) {
        Due.of("promise 12, share");
        allAndNothing();
        roundedDown();
        weighed();
        byTheLaterOnesKind();
        laterByNumberInTheSameSecond();
        highestWord();
        leastShares();
        pointsMarksAndStatesDoNotCount();
        changesNothing();
        noneWithoutWords();
        noneWithoutWeights();
        noneByTheLaterOnesKindAlone();
        unknownCalls();
        theSameCall();
        unknownGoesBeforeNone();
        Due.end();
    }

    /** Calls of kind 0 of lines of their own, at the same time. */
    private static CallJoin withWords(int... words) {
        CallJoin x = new CallJoin();
        for (int line = 0; line < words.length; line++) {
            x.call(line, 0, -1, words[line], -1, 0);
        }
        return x;
    }

    private static void share(String what, int want, CallJoin x, int a, int b) {
        Due.is(what, want, () -> x.share(a, b));
        Due.is(what + ", turned round", want, () -> x.share(b, a));
    }

    private static void none(String what, CallJoin x, int a, int b) {
        Due.refuses(what, Due.NO_SHARE, () -> x.share(a, b));
        Due.refuses(what + ", turned round", Due.NO_SHARE, () -> x.share(b, a));
    }

    private static void allAndNothing() {
        CallJoin x = withWords(7, 7, 8, 0);
        share("3 of 3", 1000, x, 0, 1);
        share("0 of 4", 0, x, 0, 2);
        share("0 of 3, one without words", 0, x, 0, 3);
        share("0 of 1, one without words", 0, x, 2, 3);
    }

    private static void roundedDown() {
        CallJoin x = withWords(7, 1, 3, 63, 127);
        share("1 of 3", 333, x, 0, 1);
        share("2 of 3", 666, x, 0, 2);
        share("1 of 2", 500, x, 1, 2);
        share("3 of 6", 500, x, 0, 3);
        share("6 of 7", 857, x, 3, 4);
        share("1 of 7", 142, x, 1, 4);
        CallJoin y = withWords(-1, -1 >>> 1);
        share("31 of 32", 968, y, 0, 1);
    }

    private static void weighed() {
        CallJoin x = withWords(7, 3);
        x.weight(0, 2, 4);
        share("2 of 6", 333, x, 0, 1);
        x.weight(0, 0, 100);
        share("101 of 105", 961, x, 0, 1);
        x.weight(0, 1, 0);
        share("100 of 104", 961, x, 0, 1);
        x.weight(0, 2, 0);
        share("100 of 100", 1000, x, 0, 1);
        x.weight(0, 0, 0);
        x.weight(0, 2, 1);
        share("0 of 1", 0, x, 0, 1);
    }

    private static void byTheLaterOnesKind() {
        CallJoin x = new CallJoin();
        x.weight(1, 2, 4);
        x.weight(2, 2, 0);
        x.call(0, 0, -1, 7, -1, 0);
        x.call(1, 1, -1, 3, -1, 1);
        x.call(2, 0, -1, 7, -1, 2);
        x.call(3, 2, -1, 7, -1, 3);
        share("2 of 6 by kind 1", 333, x, 0, 1);
        share("2 of 3 by kind 0", 666, x, 1, 2);
        share("2 of 2 by kind 2", 1000, x, 1, 3);
    }

    private static void laterByNumberInTheSameSecond() {
        CallJoin x = new CallJoin();
        x.weight(1, 2, 4);
        x.call(0, 0, -1, 7, -1, 5);
        x.call(1, 1, -1, 3, -1, 5);
        x.call(2, 0, -1, 7, -1, 5);
        share("2 of 6 by kind 1", 333, x, 0, 1);
        share("2 of 3 by kind 0", 666, x, 1, 2);
    }

    private static void highestWord() {
        CallJoin x = withWords(1 << 31 | 1, 1 << 31, LOW);
        share("1 of 2, the word 31", 500, x, 0, 1);
        share("1 of 1, the word 31", 1000, x, 1, 2);
        x.weight(0, 31, 100);
        share("100 of 101", 990, x, 0, 1);
    }

    private static void leastShares() {
        CallJoin x = withWords(-1, 1);
        for (int word = 1; word < 32; word++) {
            x.weight(0, word, 100);
        }
        share("1 of 3,101", 0, x, 0, 1);
        for (int word = 3; word < 32; word++) {
            x.weight(0, word, word < 12 ? 100 : 0);
        }
        x.weight(0, 11, 99);
        share("1 of 1,100 is less than a thousandth", 0, x, 0, 1);
        x.weight(0, 11, 0);
        x.weight(0, 10, 99);
        share("1 of 1,000 is just one", 1, x, 0, 1);
        x.weight(0, 10, 100);
        share("1 of 1,001 is none", 0, x, 0, 1);
        x.weight(0, 0, 100);
        for (int word = 1; word < 32; word++) {
            x.weight(0, word, 100);
        }
        share("100 of 3,200", 31, x, 0, 1);
    }

    private static void pointsMarksAndStatesDoNotCount() {
        CallJoin x = new CallJoin();
        x.call(0, 0, 0, 3, -1, 0);
        x.call(1, 0, Due.at(9999, 9999), 1, 3, 1_000_000);
        x.mark(0, 4);
        x.mark(1, 7);
        x.state(0, 2);
        share("1 of 2 whatever else", 500, x, 0, 1);
    }

    private static void changesNothing() {
        Sight.unchanged("a share", Sample::mixed, x -> x.share(0, 5));
        Sight.unchanged("no share", () -> withWords(0, 0, 1), x -> x.share(0, 1));
    }

    private static void noneWithoutWords() {
        none("no words", withWords(0, 0), 0, 1);
        Sight.refused("no words", Due.NO_SHARE, () -> withWords(0, 1, 0), x -> x.share(2, 0));
    }

    private static void noneWithoutWeights() {
        CallJoin x = withWords(4, 4, 8);
        x.weight(0, 2, 0);
        none("a word without weight", x, 0, 1);
        share("one that weighs beside it", 0, x, 0, 2);
        x.weight(0, 3, 0);
        none("two words without weight", x, 0, 2);
        x.weight(0, 2, 1);
        share("a weight again", 1000, x, 0, 1);
    }

    private static void noneByTheLaterOnesKindAlone() {
        CallJoin x = new CallJoin();
        x.weight(1, 2, 0);
        x.call(0, 0, -1, 4, -1, 0);
        x.call(1, 1, -1, 4, -1, 0);
        x.call(2, 0, -1, 4, -1, 0);
        none("no weight in the later one's kind", x, 0, 1);
        share("none in the earlier one's kind alone", 1000, x, 1, 2);
    }

    private static void unknownCalls() {
        Sight.refusedFor("a", Due.UNKNOWN, Sample::mixed, (x, a) -> x.share(a, 0), -1, 8, LOW, HIGH);
        Sight.refusedFor("b", Due.UNKNOWN, Sample::mixed, (x, b) -> x.share(0, b), -1, 8, LOW, HIGH);
        Sight.refusedFor("new: b", Due.UNKNOWN, CallJoin::new, (x, b) -> x.share(0, b), 0, 1);
        Sight.refusedFor("120 calls: b", Due.UNKNOWN, Sample::full, (x, b) -> x.share(0, b), -1, 120);
        share("the last of 120 calls", 1000, fullOfWords(), 0, 119);
        Due.refuses("two that are both unknown", Due.UNKNOWN, () -> Sample.mixed().share(8, 9));
    }

    private static CallJoin fullOfWords() {
        CallJoin x = new CallJoin();
        for (int call = 0; call < 120; call++) {
            x.call(0, 0, -1, 1, -1, 0);
        }
        return x;
    }

    private static void theSameCall() {
        for (int call = 0; call < 8; call++) {
            int c = call;
            Sight.refused("call " + call + " twice", Due.UNKNOWN, Sample::mixed, x -> x.share(c, c));
        }
    }

    private static void unknownGoesBeforeNone() {
        Due.refuses("no words, the same call", Due.UNKNOWN, () -> withWords(0, 0).share(1, 1));
        Due.refuses("no words, an unknown call", Due.UNKNOWN, () -> withWords(0, 0).share(1, 2));
    }
}

/** Promise 2: "A kind's distance (0 .. 20,000), span (0 .. 100,000), need p / q (0 .. 100, 1 .. 100)." */
public final class Promise02RuleTest {
    private static final int LOW = Integer.MIN_VALUE;
    private static final int HIGH = Integer.MAX_VALUE;

    public static void main(String[] args) {
        Due.of("promise 2, rule");
        everyKindGetsItsOwn();
        leastDistance();
        greatestDistance();
        leastSpan();
        greatestSpan();
        leastNeed();
        needOfAll();
        greatestNeed();
        leastNeedAboveZero();
        greatestDivisor();
        oneThird();
        ruleCountsFromNowOn();
        unknownKinds();
        distancesOutOfRange();
        spansOutOfRange();
        needsOutOfRange();
        unknownGoesBeforeRange();
        Due.end();
    }

    private static CallJoin withRule(int kind, int distance, int span, int p, int q) {
        CallJoin x = Gauge.forRule(kind);
        x.rule(kind, distance, span, p, q);
        return x;
    }

    private static void everyKindGetsItsOwn() {
        for (int kind = 0; kind < 8; kind++) {
            CallJoin x = new CallJoin();
            for (int other = 0; other < 8; other++) {
                x.rule(other, 100 + other, 50 + other, other, 8);
            }
            x.call(1, kind, 0, -1, -1, 0);
            Gauge.rule("kind " + kind, x, kind, 100 + kind, 50 + kind, 4 * kind);
        }
        for (int kind = 0; kind < 8; kind++) {
            CallJoin x = Gauge.forRule(kind);
            for (int other = 0; other < 8; other++) {
                if (other != kind) {
                    x.rule(other, 5, 5, 1, 1);
                }
            }
            Gauge.rule("kind " + kind + " when all others have other rules", x, kind, 200, 600, 16);
        }
    }

    private static void leastDistance() {
        Gauge.rule("distance 0", withRule(3, 0, 600, 1, 2), 3, 0, 600, 16);
        Gauge.rule("distance 1", withRule(3, 1, 600, 1, 2), 3, 1, 600, 16);
    }

    private static void greatestDistance() {
        CallJoin x = withRule(3, 20_000, 600, 1, 2);
        Due.is("distance 20,000: the other corner", 0, () -> x.reasonFor(2, 3, Due.at(9999, 9999), -1, -1, 0));
        Gauge.span("distance 20,000", x, 3, 600);
        Gauge.need("distance 20,000", x, 3, 16);
        CallJoin y = withRule(3, 14_141, 600, 1, 2);
        Due.is("14,141 is above the way across", 0, () -> y.reasonFor(2, 3, Due.at(9999, 9999), -1, -1, 0));
        CallJoin z = withRule(3, 14_140, 600, 1, 2);
        Due.is("14,140 is below it", -1, () -> z.reasonFor(2, 3, Due.at(9999, 9999), -1, -1, 0));
        withoutShareAtTheGreatest();
    }

    private static void withoutShareAtTheGreatest() {
        CallJoin x = new CallJoin();
        x.rule(3, 20_000, 600, 1, 2);
        x.call(1, 3, 0, 0, -1, 0);
        Due.is("half of 20,000", 0, () -> x.reasonFor(2, 3, Due.at(8000, 6000), 0, -1, 0));
        Due.is("above half of 20,000", -1, () -> x.reasonFor(2, 3, Due.at(8000, 6001), 0, -1, 0));
    }

    private static void leastSpan() {
        Gauge.rule("span 0", withRule(4, 200, 0, 1, 2), 4, 200, 0, 16);
        Gauge.rule("span 1", withRule(4, 200, 1, 1, 2), 4, 200, 1, 16);
    }

    private static void greatestSpan() {
        Gauge.rule("span 100,000", withRule(4, 200, 100_000, 1, 2), 4, 200, 100_000, 16);
    }

    private static void leastNeed() {
        Gauge.rule("need 0 / 1", withRule(5, 200, 600, 0, 1), 5, 200, 600, 0);
        Gauge.rule("need 0 / 100", withRule(5, 200, 600, 0, 100), 5, 200, 600, 0);
    }

    private static void needOfAll() {
        Gauge.rule("need 1 / 1", withRule(5, 200, 600, 1, 1), 5, 200, 600, 32);
        Gauge.rule("need 100 / 100", withRule(5, 200, 600, 100, 100), 5, 200, 600, 32);
    }

    private static void greatestNeed() {
        CallJoin x = withRule(5, 200, 600, 100, 1);
        Due.is("need 100 / 1 is above every share", -1, () -> x.reasonFor(2, 5, 0, -1, -1, 0));
        Gauge.span("need 100 / 1", x, 5, 600);
        CallJoin y = withRule(5, 200, 600, 100, 99);
        Due.is("need 100 / 99 is above every share", -1, () -> y.reasonFor(2, 5, 0, -1, -1, 0));
    }

    private static void leastNeedAboveZero() {
        Gauge.rule("need 1 / 100", withRule(5, 200, 600, 1, 100), 5, 200, 600, 1);
    }

    private static void greatestDivisor() {
        Gauge.rule("need 99 / 100", withRule(5, 200, 600, 99, 100), 5, 200, 600, 32);
        Gauge.rule("need 96 / 100", withRule(5, 200, 600, 96, 100), 5, 200, 600, 31);
        Gauge.rule("need 50 / 100", withRule(5, 200, 600, 50, 100), 5, 200, 600, 16);
    }

    private static void oneThird() {
        CallJoin x = new CallJoin();
        x.rule(5, 200, 600, 1, 3);
        x.call(1, 5, 0, 7, -1, 0);
        Due.is("1 of 3 words, need 1 / 3", 0, () -> x.reasonFor(2, 5, 0, 1, -1, 0));
        Due.is("1 of 4 words, need 1 / 3", -1, () -> x.reasonFor(2, 5, 0, 9, -1, 0));
        x.rule(5, 200, 600, 34, 100);
        Due.is("1 of 3 words, need 34 / 100", -1, () -> x.reasonFor(2, 5, 0, 1, -1, 0));
        x.rule(5, 200, 600, 33, 100);
        Due.is("1 of 3 words, need 33 / 100", 0, () -> x.reasonFor(2, 5, 0, 1, -1, 0));
    }

    private static void ruleCountsFromNowOn() {
        CallJoin x = new CallJoin();
        x.call(1, 0, 0, 1, -1, 0);
        x.call(2, 0, Due.at(200, 0), 1, -1, 600);
        x.rule(0, 0, 0, 100, 1);
        Due.is("a call that was joined stays so", 0, () -> x.callAt(1, 1));
        Due.is("but they do not agree any more", 0, () -> x.agree(0, 1));
        x.rule(0, 200, 600, 1, 1);
        Due.is("and do again", 1, () -> x.agree(0, 1));
    }

    /** What is allowed in a refused rule differs from the first rule too, so that a part of it would be seen. */
    private static void refused(String what, String exception, Sight.Change change) {
        for (int kind = 0; kind < 8; kind++) {
            CallJoin x = Gauge.forRule(kind);
            Due.refuses(what, exception, () -> change.to(x));
            Gauge.rule(what + " leaves kind " + kind, x, kind, 200, 600, 16);
        }
        Sight.unchanged(what, Sample::mixed, change);
    }

    private static void unknownKinds() {
        for (int kind : new int[] {-1, 8, LOW, HIGH}) {
            refused("kind " + kind, Due.UNKNOWN, x -> x.rule(kind, 7, 8, 3, 4));
        }
    }

    private static void distancesOutOfRange() {
        for (int distance : new int[] {-1, 20_001, LOW, HIGH}) {
            refused("distance " + distance, Due.RANGE, x -> x.rule(0, distance, 8, 3, 4));
        }
    }

    private static void spansOutOfRange() {
        for (int span : new int[] {-1, 100_001, LOW, HIGH}) {
            refused("span " + span, Due.RANGE, x -> x.rule(0, 7, span, 3, 4));
        }
    }

    private static void needsOutOfRange() {
        for (int p : new int[] {-1, 101, LOW, HIGH}) {
            refused("p " + p, Due.RANGE, x -> x.rule(0, 7, 8, p, 4));
        }
        for (int q : new int[] {0, 101, -1, LOW, HIGH}) {
            refused("q " + q, Due.RANGE, x -> x.rule(0, 7, 8, 3, q));
        }
    }

    private static void unknownGoesBeforeRange() {
        refused("unknown kind, distance", Due.UNKNOWN, x -> x.rule(8, -1, 8, 3, 4));
        refused("unknown kind, span", Due.UNKNOWN, x -> x.rule(-1, 7, 100_001, 3, 4));
        refused("unknown kind, p", Due.UNKNOWN, x -> x.rule(8, 7, 8, 101, 4));
        refused("unknown kind, q", Due.UNKNOWN, x -> x.rule(-1, 7, 8, 3, 0));
    }
}

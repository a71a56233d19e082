/** Promise 1: "No calls, no roads.", and the rules that the kinds have at first. */
public final class Promise01NewObjectTest {
    public static void main(String[] args) {
        Due.of("promise 1, a new object");
        countsAreZero();
        noCallIsKnown();
        noEventIsKnown();
        noRoadHasAPoint();
        noCallIsAReason();
        everyKindHasTheFirstRule();
        everyWordWeighsOne();
        objectsAreApart();
        answersUpToTheLastCall();
        Due.end();
    }

    private static void countsAreZero() {
        CallJoin x = new CallJoin();
        for (int what = 0; what < 4; what++) {
            int w = what;
            Due.is("count(" + what + ")", 0, () -> x.count(w));
        }
    }

    private static void noCallIsKnown() {
        for (int call : new int[] {Integer.MIN_VALUE, -1, 0, 1, 119, 120, Integer.MAX_VALUE}) {
            CallJoin x = new CallJoin();
            Due.refuses("mark of call " + call, Due.UNKNOWN, () -> x.mark(call, 0));
            Due.refuses("split of call " + call, Due.UNKNOWN, () -> x.split(call));
            Due.refuses("callAt of call " + call, Due.UNKNOWN, () -> x.callAt(call, 0));
            Due.refuses("share of call " + call, Due.UNKNOWN, () -> x.share(call, 0));
            Due.refuses("agree of call " + call, Due.UNKNOWN, () -> x.agree(0, call));
        }
    }

    private static void noEventIsKnown() {
        for (int event : new int[] {Integer.MIN_VALUE, -1, 0, 1, 59, 60, Integer.MAX_VALUE}) {
            CallJoin x = new CallJoin();
            Due.refuses("eventAt of event " + event, Due.UNKNOWN, () -> x.eventAt(event, 0));
            Due.refuses("member of event " + event, Due.UNKNOWN, () -> x.member(event, 0));
            Due.refuses("state of event " + event, Due.UNKNOWN, () -> x.state(event, 1));
            Due.refuses("merge of event " + event, Due.UNKNOWN, () -> x.merge(event, 0));
            Due.refuses("watch of event " + event, Due.UNKNOWN, () -> x.watch(event, 0, 0, 1));
        }
    }

    private static void noRoadHasAPoint() {
        for (int road = 0; road < 8; road++) {
            int r = road;
            CallJoin x = new CallJoin();
            x.call(1, 0, -1, 0, -1, 0);
            Due.refuses("no stretch of road " + road, Due.RANGE, () -> x.watch(0, r, 0, 1));
            Due.is("the first point of road " + road, 1, () -> x.point(r, 0));
        }
    }

    private static void noCallIsAReason() {
        CallJoin x = new CallJoin();
        Due.is("nothing to be joined to", -1, () -> x.reasonFor(0, 0, 0, -1, 0, 0));
        Due.is("nor without a point, a road and words", -1, () -> x.reasonFor(0, 0, -1, 0, -1, 0));
        Due.is("the first call's number", 0, () -> x.call(0, 0, 0, -1, 0, 0));
        Due.is("the first event's number", 0, () -> x.callAt(0, 0));
    }

    private static void everyKindHasTheFirstRule() {
        for (int kind = 0; kind < 8; kind++) {
            Gauge.rule("kind " + kind + " at first", Gauge.forRule(kind), kind, 200, 600, 16);
        }
    }

    private static void everyWordWeighsOne() {
        for (int kind = 0; kind < 8; kind++) {
            Gauge.weights("kind " + kind + " at first", Gauge.forWeights(kind), Gauge.ones());
        }
    }

    private static void objectsAreApart() {
        CallJoin other = Gauge.forRule(0);
        CallJoin x = new CallJoin();
        x.rule(0, 1, 1, 1, 1);
        x.weight(0, 0, 100);
        x.point(0, 0);
        x.call(5, 0, -1, 0, -1, 0);
        x.call(6, 0, -1, 0, -1, 0);
        x.mark(0, 4);
        Due.is("another object's calls", 1, () -> other.count(0));
        Due.is("another object's hoaxes", 0, () -> other.count(3));
        Due.is("another object's roads", 1, () -> other.point(0, 0));
        Gauge.rule("another object's rule", other, 0, 200, 600, 16);
    }

    private static void answersUpToTheLastCall() {
        CallJoin x = Sample.full();
        for (int call = 120; call < 511; call++) {
            x.reasonFor(0, 0, -1, 0, -1, 719);
        }
        Due.is("the 512th call", 119, () -> x.reasonFor(0, 0, -1, 0, -1, 719));
    }
}

/** Promises 1 to 4: a new object, rule, weight, point. */
public final class SetupTest {
    public static void main(String[] args) {
        newObject();
        rulesAtFirst();
        ruleChanges();
        ruleRefuses();
        weightChanges();
        weightRefuses();
        pointCounts();
        pointRefuses();
        Due.end();
    }

    private static void newObject() {
        CallJoin x = new CallJoin();
        for (int what = 0; what < 4; what++) {
            int w = what;
            Due.is("new: count(" + what + ")", 0, () -> x.count(w));
        }
        Due.refuses("new: no call", Due.UNKNOWN, () -> x.callAt(0, 0));
        Due.refuses("new: no event", Due.UNKNOWN, () -> x.eventAt(0, 0));
        for (int road = 0; road < 8; road++) {
            int r = road;
            Due.is("new: road " + road + " is empty", 1, () -> x.point(r, 0));
        }
        CallJoin y = new CallJoin();
        Due.is("a second object has roads of its own", 1, () -> y.point(0, 0));
    }

    private static void rulesAtFirst() {
        for (int kind = 0; kind < 8; kind++) {
            int k = kind;
            CallJoin x = new CallJoin();
            x.call(1, kind, Due.at(1000, 1000), 3, -1, 0);
            Due.is("distance 200", 0, () -> x.reasonFor(2, k, Due.at(1200, 1000), 3, -1, 600));
            Due.is("distance 200, above", -1, () -> x.reasonFor(2, k, Due.at(1200, 1001), 3, -1, 0));
            Due.is("span 600, above", -1, () -> x.reasonFor(2, k, Due.at(1000, 1000), 3, -1, 601));
            Due.is("need 1 / 2", 0, () -> x.reasonFor(2, k, Due.at(1000, 1000), 1, -1, 0));
            Due.is("need 1 / 2, below", -1, () -> x.reasonFor(2, k, Due.at(1000, 1000), 5, -1, 0));
        }
        CallJoin x = new CallJoin();
        x.call(1, 0, -1, -1, -1, 0);
        for (int word = 0; word < 32; word++) {
            x.call(2 + word, 0, -1, 1 << word, -1, 1);
            int c = 1 + word;
            Due.is("word " + word + " weighs 1 of 32", 31, () -> x.share(0, c));
        }
    }

    private static void ruleChanges() {
        CallJoin x = new CallJoin();
        x.call(1, 7, Due.at(0, 0), 1, -1, 0);
        x.rule(7, 20_000, 100_000, 0, 100);
        Due.is("the greatest numbers", 0, () -> x.reasonFor(2, 7, Due.at(9999, 9999), 2, -1, 100_000));
        Due.is("the greatest span, above", -1, () -> x.reasonFor(2, 7, Due.at(0, 0), 1, -1, 100_001));
        x.rule(7, 0, 0, 100, 100);
        Due.is("the least numbers", 0, () -> x.reasonFor(2, 7, Due.at(0, 0), 1, -1, 0));
        Due.is("distance 0, above", -1, () -> x.reasonFor(2, 7, Due.at(0, 1), 1, -1, 0));
        Due.is("span 0, above", -1, () -> x.reasonFor(2, 7, Due.at(0, 0), 1, -1, 1));
        Due.is("need 1, below", -1, () -> x.reasonFor(2, 7, Due.at(0, 0), 3, -1, 0));
        x.rule(7, 0, 0, 100, 1);
        Due.is("no share meets a need above 1", -1, () -> x.reasonFor(2, 7, Due.at(0, 0), 1, -1, 0));
        x.rule(7, 0, 0, 2, 3);
        Due.is("need 2 / 3: 2 of 3", -1, () -> x.reasonFor(2, 7, -1, 3, -1, 0));
        x.call(3, 7, -1, 7, -1, 0);
        Due.is("need 2 / 3: 2 of 3 is not below", 1, () -> x.reasonFor(2, 7, -1, 3, -1, 0));
        x.call(4, 6, Due.at(0, 0), 1, -1, 0);
        Due.is("another kind keeps its rule", 2, () -> x.reasonFor(2, 6, Due.at(100, 0), 1, -1, 500));
    }

    private static void ruleRefuses() {
        CallJoin x = new CallJoin();
        x.call(1, 0, Due.at(0, 0), 1, -1, 0);
        Due.refuses("kind -1", Due.UNKNOWN, () -> x.rule(-1, 1, 1, 1, 1));
        Due.refuses("kind 8", Due.UNKNOWN, () -> x.rule(8, 1, 1, 1, 1));
        Due.refuses("unknown goes before range", Due.UNKNOWN, () -> x.rule(8, -1, -1, -1, 0));
        Due.refuses("distance -1", Due.RANGE, () -> x.rule(0, -1, 1, 1, 1));
        Due.refuses("distance 20,001", Due.RANGE, () -> x.rule(0, 20_001, 1, 1, 1));
        Due.refuses("span -1", Due.RANGE, () -> x.rule(0, 1, -1, 1, 1));
        Due.refuses("span 100,001", Due.RANGE, () -> x.rule(0, 1, 100_001, 1, 1));
        Due.refuses("p -1", Due.RANGE, () -> x.rule(0, 1, 1, -1, 1));
        Due.refuses("p 101", Due.RANGE, () -> x.rule(0, 1, 1, 101, 1));
        Due.refuses("q 0", Due.RANGE, () -> x.rule(0, 1, 1, 1, 0));
        Due.refuses("q 101", Due.RANGE, () -> x.rule(0, 1, 1, 1, 101));
        Due.is("a refused rule changes nothing", 0, () -> x.reasonFor(2, 0, Due.at(200, 0), 3, -1, 600));
    }

    private static void weightChanges() {
        CallJoin x = new CallJoin();
        x.weight(0, 31, 100);
        x.weight(0, 0, 0);
        x.call(1, 0, -1, 1 << 31 | 2 | 1, -1, 0);
        x.call(2, 0, -1, 1 << 31, -1, 0);
        x.call(3, 0, -1, 1, -1, 0);
        x.call(4, 0, -1, 1, -1, 0);
        x.call(5, 1, -1, 1 << 31, -1, 0);
        Due.is("100 of 101", 990, () -> x.share(0, 1));
        Due.is("0 of 101", 0, () -> x.share(0, 2));
        Due.refuses("a word without weight gives no share", Due.NO_SHARE, () -> x.share(2, 3));
        Due.is("another kind's weights", 333, () -> x.share(0, 4));
        x.weight(0, 31, 1);
        Due.is("a weight again", 500, () -> x.share(0, 1));
    }

    private static void weightRefuses() {
        CallJoin x = new CallJoin();
        x.call(1, 0, -1, 3, -1, 0);
        x.call(2, 0, -1, 1, -1, 0);
        Due.refuses("kind -1", Due.UNKNOWN, () -> x.weight(-1, 0, 1));
        Due.refuses("kind 8", Due.UNKNOWN, () -> x.weight(8, 0, 1));
        Due.refuses("word -1", Due.UNKNOWN, () -> x.weight(0, -1, 1));
        Due.refuses("word 32", Due.UNKNOWN, () -> x.weight(0, 32, 1));
        Due.refuses("unknown goes before range", Due.UNKNOWN, () -> x.weight(0, 32, 101));
        Due.refuses("weight -1", Due.RANGE, () -> x.weight(0, 0, -1));
        Due.refuses("weight 101", Due.RANGE, () -> x.weight(0, 0, 101));
        Due.is("a refused weight changes nothing", 500, () -> x.share(0, 1));
    }

    private static void pointCounts() {
        CallJoin x = new CallJoin();
        for (int i = 1; i <= 8; i++) {
            Due.is("point " + i, i, () -> x.point(7, 99_999_999));
        }
        Due.is("another road", 1, () -> x.point(0, 0));
        Due.refuses("a ninth", Due.ROOM, () -> x.point(7, 0));
        Due.refuses("range goes before room", Due.RANGE, () -> x.point(7, -1));
        Due.is("the other road is as it was", 2, () -> x.point(0, 0));
    }

    private static void pointRefuses() {
        CallJoin x = new CallJoin();
        Due.refuses("road -1", Due.UNKNOWN, () -> x.point(-1, 0));
        Due.refuses("road 8", Due.UNKNOWN, () -> x.point(8, 0));
        Due.refuses("unknown goes before range", Due.UNKNOWN, () -> x.point(8, -1));
        Due.refuses("point -1", Due.RANGE, () -> x.point(0, -1));
        Due.refuses("point 100,000,000", Due.RANGE, () -> x.point(0, 100_000_000));
        Due.is("what is refused is not there", 1, () -> x.point(0, 0));
    }
}

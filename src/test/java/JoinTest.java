/** Promises 5 and 6: call, reasonFor, and to which event a new call is joined. */
public final class JoinTest {
    public static void main(String[] args) {
        numbers();
        refusals();
        roomForCalls();
        roomForEvents();
        again();
        againGoesFirst();
        stretchWithPoint();
        stretchSlanted();
        stretchOfNoLength();
        stretchPart();
        stretchByRoad();
        stretchChoice();
        place();
        placeChoice();
        words();
        wordsChoice();
        reasonForChangesNothing();
        Due.end();
    }

    private static void joined(CallJoin x, int call, int event, int reason, int how) {
        Due.is("event of " + call, event, () -> x.callAt(call, 0));
        Due.is("reason of " + call, reason, () -> x.callAt(call, 1));
        Due.is("how " + call + " was joined", how, () -> x.callAt(call, 4));
    }

    private static void numbers() {
        CallJoin x = new CallJoin();
        Due.is("first call", 0, () -> x.call(0, 0, 0, 0, -1, 0));
        Due.is("second call", 1, () -> x.call(999, 7, 99_999_999, -1, 7, Integer.MAX_VALUE));
        Due.is("third call", 2, () -> x.call(998, 7, -1, Integer.MIN_VALUE, 0, Integer.MAX_VALUE));
        joined(x, 0, 0, -1, 0);
        joined(x, 1, 1, -1, 0);
        Due.is("kind", 7, () -> x.callAt(1, 3));
        Due.is("no marks", 0, () -> x.callAt(1, 2));
    }

    private static void refusals() {
        CallJoin x = new CallJoin();
        x.call(1, 0, 0, 0, -1, 50);
        refuses(x, "kind -1", Due.UNKNOWN, 1, -1, 0, 0, 50);
        refuses(x, "kind 8", Due.UNKNOWN, 1, 8, 0, 0, 50);
        refuses(x, "road -2", Due.UNKNOWN, 1, 0, 0, -2, 50);
        refuses(x, "road 8", Due.UNKNOWN, 1, 0, 0, 8, 50);
        refuses(x, "unknown road goes before range", Due.UNKNOWN, -1, 0, -2, 8, 0);
        refuses(x, "unknown kind goes before range", Due.UNKNOWN, -1, 8, -2, 0, 0);
        refuses(x, "line -1", Due.RANGE, -1, 0, 0, 0, 50);
        refuses(x, "line 1,000", Due.RANGE, 1000, 0, 0, 0, 50);
        refuses(x, "point -2", Due.RANGE, 1, 0, -2, 0, 50);
        refuses(x, "point 100,000,000", Due.RANGE, 1, 0, 100_000_000, 0, 50);
        refuses(x, "before the latest", Due.RANGE, 1, 0, 0, 0, 49);
        refuses(x, "time below 0", Due.RANGE, 1, 0, 0, 0, -1);
        refuses(new CallJoin(), "first time below 0", Due.RANGE, 1, 0, 0, 0, -1);
        Due.is("refused calls are not there", 1, () -> x.count(0));
        Due.is("the latest one's time", 1, () -> x.call(1, 0, 0, 0, -1, 50));
    }

    private static void refuses(CallJoin x, String what, String exception, int line, int kind, int point, int road, int t) {
        Due.refuses("call: " + what, exception, () -> x.call(line, kind, point, 0, road, t));
        Due.refuses("reasonFor: " + what, exception, () -> x.reasonFor(line, kind, point, 0, road, t));
    }

    private static void roomForCalls() {
        CallJoin x = new CallJoin();
        for (int i = 0; i < 120; i++) {
            int want = i;
            Due.is("call " + i, want, () -> x.call(5, 0, -1, 0, -1, want));
        }
        Due.refuses("a 121st call", Due.ROOM, () -> x.call(5, 0, -1, 0, -1, 120));
        Due.refuses("unknown goes before room", Due.UNKNOWN, () -> x.call(5, 8, -1, 0, -1, 120));
        Due.refuses("range goes before room", Due.RANGE, () -> x.call(5, 0, -1, 0, -1, 118));
        Due.is("reasonFor needs no room", 119, () -> x.reasonFor(5, 0, -1, 0, -1, 120));
        Due.is("reasonFor of another line", -1, () -> x.reasonFor(6, 0, -1, 0, -1, 120));
        Due.is("120 calls", 120, () -> x.count(0));
        Due.is("all in one event", 120, () -> x.eventAt(0, 1));
        Due.is("its latest", 119, () -> x.eventAt(0, 6));
        Due.is("still the last", 119, () -> x.member(0, 119));
    }

    private static void roomForEvents() {
        CallJoin x = new CallJoin();
        for (int i = 0; i < 60; i++) {
            int line = i;
            Due.is("event " + i, line, () -> x.callAt(x.call(line, 0, -1, 0, -1, 0), 0));
        }
        x.state(59, 2);
        Due.refuses("a 61st event", Due.ROOM, () -> x.call(60, 0, -1, 0, -1, 0));
        Due.is("reasonFor of a new event", -1, () -> x.reasonFor(60, 0, -1, 0, -1, 0));
        Due.is("one that is joined has room", 60, () -> x.call(3, 0, -1, 0, -1, 0));
        joined(x, 60, 3, 3, 1);
        Due.is("60 events", 60, () -> x.count(1));
        Due.is("the refused call is not there", 61, () -> x.count(0));
    }

    private static void again() {
        CallJoin x = new CallJoin();
        x.rule(1, 0, 10, 1, 1);
        x.rule(2, 0, 20, 1, 1);
        x.call(5, 1, -1, 0, -1, 100);
        Due.is("the span of the new one's kind", 0, () -> x.reasonFor(5, 2, -1, 0, -1, 120));
        Due.is("above that", -1, () -> x.reasonFor(5, 2, -1, 0, -1, 121));
        Due.is("at the lesser span", 0, () -> x.reasonFor(5, 1, -1, 0, -1, 110));
        Due.is("above the lesser span", -1, () -> x.reasonFor(5, 1, -1, 0, -1, 111));
        Due.is("another line", -1, () -> x.reasonFor(6, 1, -1, 0, -1, 100));
        x.call(5, 2, -1, 0, -1, 100);
        joined(x, 1, 0, 0, 1);
        Due.is("the latest of the line", 1, () -> x.reasonFor(5, 1, -1, 0, -1, 110));
        x.call(6, 3, -1, 0, -1, 100);
        Due.is("not the latest of all lines", 1, () -> x.reasonFor(5, 1, -1, 0, -1, 110));
        x.mark(1, 4);
        Due.is("a hoax is passed over", 0, () -> x.reasonFor(5, 1, -1, 0, -1, 110));
        x.mark(1, 3);
        Due.is("other marks are no hoax", 1, () -> x.reasonFor(5, 1, -1, 0, -1, 110));
        x.split(1);
        x.state(2, 1);
        Due.is("one in a handed-over event is passed over", 0, () -> x.reasonFor(5, 1, -1, 0, -1, 110));
        x.state(2, 2);
        Due.is("one in a closed event is passed over", 0, () -> x.reasonFor(5, 1, -1, 0, -1, 110));
        x.state(2, 0);
        Due.is("open again", 1, () -> x.reasonFor(5, 1, -1, 0, -1, 110));
    }

    private static void againGoesFirst() {
        CallJoin x = new CallJoin();
        x.point(0, 0);
        x.point(0, Due.at(1000, 0));
        x.call(1, 0, Due.at(500, 0), 1, -1, 0);
        x.watch(0, 0, 0, 1);
        x.call(2, 0, Due.at(5000, 0), 1, -1, 0);
        x.call(3, 0, -1, 2, -1, 0);
        Due.is("again before stretch", 1, () -> x.reasonFor(2, 0, Due.at(500, 0), 1, -1, 0));
        Due.is("stretch before place", 0, () -> x.reasonFor(9, 0, Due.at(500, 0), 1, -1, 0));
        Due.is("stretch before words", 0, () -> x.reasonFor(9, 0, -1, 2, 0, 0));
        x.call(4, 0, Due.at(5100, 0), 3, -1, 0);
        joined(x, 3, 1, 1, 3);
        Due.is("place before words", 1, () -> x.reasonFor(9, 0, Due.at(4999, 0), 3, -1, 0));
        Due.is("words when no place", 2, () -> x.reasonFor(9, 0, Due.at(9000, 0), 2, -1, 0));
    }

    private static CallJoin watched(int... points) {
        CallJoin x = new CallJoin();
        for (int point : points) {
            x.point(3, point);
        }
        x.call(1, 0, -1, 0, -1, 0);
        x.watch(0, 3, 0, points.length - 1);
        return x;
    }

    private static void on(CallJoin x, int want, int px, int py) {
        Due.is("on the stretch: " + px + ", " + py, want, () -> x.reasonFor(2, 0, Due.at(px, py), 0, -1, 9_999_999));
    }

    private static void stretchWithPoint() {
        CallJoin x = watched(Due.at(100, 1000), Due.at(600, 1000), Due.at(600, 3000));
        on(x, 0, 100, 1000);
        on(x, 0, 300, 1050);
        on(x, -1, 300, 1051);
        on(x, 0, 300, 950);
        on(x, -1, 300, 949);
        on(x, 0, 50, 1000);
        on(x, -1, 49, 1000);
        on(x, 0, 70, 1040);
        on(x, -1, 69, 1040);
        on(x, 0, 550, 2000);
        on(x, -1, 549, 2000);
        on(x, 0, 650, 2999);
        on(x, -1, 651, 2999);
        on(x, 0, 600, 3050);
        on(x, -1, 600, 3051);
        on(x, 0, 630, 3040);
        on(x, -1, 631, 3040);
        on(x, 0, 640, 970);
        on(x, -1, 640, 969);
        Due.is("no span bounds a stretch", 0,
            () -> x.reasonFor(2, 0, Due.at(100, 1000), 0, -1, Integer.MAX_VALUE));
        Due.is("another kind", -1, () -> x.reasonFor(2, 1, Due.at(100, 1000), 0, 3, 0));
        Due.is("with a point, the road does not count", -1, () -> x.reasonFor(2, 0, Due.at(9000, 0), 0, 3, 0));
        x.call(2, 0, Due.at(100, 1000), 0, -1, 5);
        joined(x, 1, 0, 0, 2);
    }

    private static void stretchSlanted() {
        CallJoin x = watched(Due.at(9999, 9999), Due.at(0, 0));
        on(x, 0, 5035, 4965);
        on(x, -1, 5036, 4965);
        CallJoin y = watched(Due.at(1000, 1000), Due.at(4000, 5000));
        on(y, 0, 2500 - 40, 3000 + 30);
        on(y, -1, 2500 - 41, 3000 + 30);
        on(y, 0, 2500 + 40, 3000 - 30);
        on(y, -1, 2500 + 40, 3000 - 31);
        CallJoin far = watched(Due.at(0, 9999), Due.at(9999, 0));
        on(far, -1, 0, 0);
        on(far, -1, 9999, 9999);
        on(far, 0, 4964, 4965);
        on(far, -1, 4964, 4964);
    }

    private static void stretchOfNoLength() {
        CallJoin x = watched(Due.at(1000, 1000), Due.at(1000, 1000));
        on(x, 0, 1030, 1040);
        on(x, -1, 1030, 1041);
        on(x, -1, 2000, 1000);
    }

    private static void stretchPart() {
        CallJoin x = watched(0, Due.at(1000, 0), Due.at(2000, 0), Due.at(3000, 0));
        x.watch(0, 3, 2, 1);
        on(x, -1, 949, 0);
        on(x, 0, 950, 0);
        on(x, 0, 1500, 50);
        on(x, 0, 2050, 0);
        on(x, -1, 2051, 0);
        x.watch(0, 3, 3, 0);
        on(x, 0, 0, 0);
        on(x, 0, 2500, 0);
        x.watch(0, 3, 0, 2);
        x.point(3, Due.at(3000, 3000));
        on(x, -1, 3000, 3000);
        on(x, 0, 2050, 0);
        x.watch(0, 3, 4, 3);
        on(x, 0, 3000, 1500);
        on(x, -1, 2500, 0);
    }

    private static void stretchByRoad() {
        CallJoin x = watched(0, Due.at(1000, 0));
        Due.is("the stretch's road", 0, () -> x.reasonFor(2, 0, -1, 0, 3, 5000));
        Due.is("another road", -1, () -> x.reasonFor(2, 0, -1, 0, 2, 0));
        Due.is("no road", -1, () -> x.reasonFor(2, 0, -1, 0, -1, 0));
        Due.is("another kind", -1, () -> x.reasonFor(2, 1, -1, 0, 3, 0));
        CallJoin y = new CallJoin();
        y.call(1, 0, -1, 0, -1, 0);
        Due.is("no stretch at all", -1, () -> y.reasonFor(2, 0, -1, 0, 0, 0));
        Due.is("no stretch and no road", -1, () -> y.reasonFor(2, 0, -1, 0, -1, 0));
    }

    private static void stretchChoice() {
        CallJoin x = watched(0, Due.at(1000, 0));
        x.call(2, 0, -1, 0, -1, 0);
        x.watch(1, 3, 0, 1);
        x.call(2, 1, -1, 0, -1, 0);
        Due.is("the lowest event", 0, () -> x.reasonFor(3, 0, 0, 0, -1, 0));
        x.state(0, 1);
        Due.is("a handed-over event is passed over", 1, () -> x.reasonFor(3, 0, 0, 0, -1, 0));
        x.state(0, 2);
        Due.is("a closed event is passed over", 1, () -> x.reasonFor(3, 0, -1, 0, 3, 0));
        x.mark(1, 4);
        Due.is("the first call, though a hoax", 1, () -> x.reasonFor(3, 0, -1, 0, 3, 0));
        Due.is("the event's kind counts, not its calls'", -1, () -> x.reasonFor(3, 1, 0, 0, -1, 0));
        x.state(0, 0);
        Due.is("open again, with its stretch", 0, () -> x.reasonFor(3, 0, -1, 0, 3, 0));
        x.merge(0, 2);
        Due.is("the first call, though not the lowest", 1, () -> x.reasonFor(3, 0, -1, 0, 3, 0));
    }

    private static void place() {
        CallJoin x = new CallJoin();
        x.rule(0, 500, 60, 1, 3);
        x.call(1, 0, Due.at(1000, 1000), 7, -1, 100);
        Due.is("at the distance, slanted", 0, () -> x.reasonFor(2, 0, Due.at(1300, 1400), 7, -1, 160));
        Due.is("above the distance", -1, () -> x.reasonFor(2, 0, Due.at(1300, 1401), 7, -1, 160));
        Due.is("above the span", -1, () -> x.reasonFor(2, 0, Due.at(1000, 1000), 7, -1, 161));
        Due.is("at the need", 0, () -> x.reasonFor(2, 0, Due.at(1000, 1000), 1, -1, 100));
        Due.is("below the need", -1, () -> x.reasonFor(2, 0, Due.at(1000, 1000), 9, -1, 100));
        Due.is("no words against words is a share of 0", -1, () -> x.reasonFor(2, 0, Due.at(1000, 1000), 0, -1, 100));
        Due.is("another kind", -1, () -> x.reasonFor(2, 1, Due.at(1000, 1000), 7, -1, 100));
        x.call(2, 0, Due.at(5000, 1000), 0, -1, 100);
        Due.is("no share: half the distance", 1, () -> x.reasonFor(3, 0, Due.at(5150, 1200), 0, -1, 160));
        Due.is("no share: above half", -1, () -> x.reasonFor(3, 0, Due.at(5150, 1201), 0, -1, 160));
        x.call(4, 0, Due.at(5150, 800), 0, -1, 110);
        joined(x, 2, 1, 1, 3);
        x.mark(0, 4);
        Due.is("a hoax is passed over", -1, () -> x.reasonFor(9, 0, Due.at(1000, 1000), 7, -1, 100 + 20));
        x.mark(0, 3);
        Due.is("other marks are no hoax", 0, () -> x.reasonFor(9, 0, Due.at(1000, 1000), 7, -1, 120));
        x.state(0, 1);
        Due.is("a handed-over event", -1, () -> x.reasonFor(9, 0, Due.at(1000, 1000), 7, -1, 120));
        x.state(0, 2);
        Due.is("a closed event", -1, () -> x.reasonFor(9, 0, Due.at(1000, 1000), 7, -1, 120));
    }

    private static void placeChoice() {
        CallJoin x = new CallJoin();
        x.call(1, 0, Due.at(1000, 1000), 1, -1, 0);
        x.call(2, 0, Due.at(1300, 1000), 1, -1, 0);
        Due.is("two events", 2, () -> x.count(1));
        Due.is("the nearest", 1, () -> x.reasonFor(3, 0, Due.at(1151, 1000), 1, -1, 0));
        Due.is("the nearest", 0, () -> x.reasonFor(3, 0, Due.at(1149, 1000), 1, -1, 0));
        Due.is("of the same distance the lowest", 0, () -> x.reasonFor(3, 0, Due.at(1150, 1000), 1, -1, 0));
        x.mark(0, 4);
        Due.is("the other one is a hoax", 1, () -> x.reasonFor(3, 0, Due.at(1149, 1000), 1, -1, 0));
        x.mark(0, 0);
        x.call(1, 5, Due.at(1100, 1000), 1, -1, 0);
        Due.is("a nearer one of another kind in an event of the kind", 0,
            () -> x.reasonFor(3, 0, Due.at(1100, 1000), 1, -1, 0));
        Due.is("a call's own kind counts, not its event's", 2,
            () -> x.reasonFor(3, 5, Due.at(1100, 1000), 1, -1, 0));
    }

    private static void words() {
        CallJoin x = new CallJoin();
        x.rule(0, 0, 60, 1, 3);
        x.call(1, 0, -1, 7, -1, 100);
        Due.is("neither has a point", 0, () -> x.reasonFor(2, 0, -1, 7, -1, 160));
        Due.is("the earlier has no point", 0, () -> x.reasonFor(2, 0, Due.at(1, 1), 7, -1, 160));
        Due.is("above the span", -1, () -> x.reasonFor(2, 0, -1, 7, -1, 161));
        Due.is("at the need", 0, () -> x.reasonFor(2, 0, -1, 1, -1, 100));
        Due.is("below the need", -1, () -> x.reasonFor(2, 0, -1, 9, -1, 100));
        Due.is("another kind", -1, () -> x.reasonFor(2, 1, -1, 7, -1, 100));
        x.call(2, 0, Due.at(5, 5), 8, -1, 100);
        Due.is("the later has no point", 1, () -> x.reasonFor(3, 0, -1, 8, -1, 100));
        Due.is("both have points: no words alone", -1, () -> x.reasonFor(3, 0, Due.at(5, 6), 8, -1, 100));
        x.call(3, 0, -1, 0, -1, 100);
        Due.is("no share", -1, () -> x.reasonFor(4, 0, -1, 0, -1, 100));
        x.rule(0, 0, 60, 0, 1);
        Due.is("no need, but a share", 0, () -> x.reasonFor(4, 0, -1, 64, -1, 100));
        x.weight(0, 6, 0);
        x.mark(0, 4);
        x.mark(1, 4);
        Due.is("no need, no share", -1, () -> x.reasonFor(4, 0, -1, 64, -1, 100));
        x.mark(0, 0);
        x.call(4, 0, -1, 6, -1, 120);
        joined(x, 3, 0, 0, 4);
        x.rule(0, 0, 60, 1, 3);
        Due.is("the need again", 0, () -> x.reasonFor(5, 0, -1, 7, -1, 120));
        x.state(0, 1);
        Due.is("a handed-over event", -1, () -> x.reasonFor(5, 0, -1, 7, -1, 120));
    }

    private static void wordsChoice() {
        CallJoin x = new CallJoin();
        x.rule(0, 0, 600, 2, 1);
        x.call(1, 0, -1, 0xf, -1, 0);
        x.call(2, 0, -1, 0x7, -1, 0);
        x.call(3, 0, -1, 0x7 << 1, -1, 0);
        x.rule(0, 0, 600, 1, 4);
        Due.is("the greatest share", 0, () -> x.reasonFor(4, 0, -1, 0xf, -1, 0));
        Due.is("the greatest share", 1, () -> x.reasonFor(4, 0, -1, 0x7, -1, 0));
        Due.is("the greatest share", 2, () -> x.reasonFor(4, 0, -1, 0xe, -1, 0));
        Due.is("of the same share the lowest", 1, () -> x.reasonFor(4, 0, -1, 0x6, -1, 0));
        x.mark(1, 4);
        Due.is("a hoax is passed over", 2, () -> x.reasonFor(4, 0, -1, 0x6, -1, 0));
        closeShares();
    }

    /** 3,000, 3,001 and 3,002 of 3,003 are the same in thousandths, and yet not the same. */
    private static void closeShares() {
        CallJoin x = new CallJoin();
        x.rule(0, 0, 600, 2, 1);
        for (int word = 0; word < 30; word++) {
            x.weight(0, word, 100);
        }
        x.weight(0, 31, 2);
        x.call(1, 0, -1, -1 >>> 2, -1, 0);
        x.call(2, 0, -1, -1 >>> 1, -1, 0);
        x.call(3, 0, -1, -1 & ~(1 << 30), -1, 0);
        x.rule(0, 0, 600, 1, 2);
        Due.is("shares that differ by little", 2, () -> x.reasonFor(4, 0, -1, -1, -1, 0));
    }

    private static void reasonForChangesNothing() {
        CallJoin x = new CallJoin();
        x.call(1, 0, Due.at(5, 5), 1, -1, 10);
        Due.is("a reason", 0, () -> x.reasonFor(1, 0, -1, 1, -1, 500));
        Due.is("a new event", -1, () -> x.reasonFor(2, 3, -1, 1, -1, 500));
        Due.is("no call more", 1, () -> x.count(0));
        Due.is("no event more", 1, () -> x.count(1));
        Due.refuses("it is no call", Due.UNKNOWN, () -> x.callAt(1, 0));
        Due.is("the latest time is as it was", 1, () -> x.call(2, 3, -1, 1, -1, 10));
        joined(x, 1, 1, -1, 0);
        Due.is("present rules", 0, () -> x.reasonFor(9, 0, Due.at(5, 5), 1, -1, 10));
        x.rule(0, 0, 0, 2, 1);
        Due.is("other rules", -1, () -> x.reasonFor(9, 0, Due.at(5, 5), 1, -1, 10));
    }
}

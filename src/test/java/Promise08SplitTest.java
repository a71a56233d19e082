/** Promise 8: "Splits: the new event." */
public final class Promise08SplitTest {
    private static final int LOW = Integer.MIN_VALUE;
    private static final int HIGH = Integer.MAX_VALUE;

    public static void main(String[] args) {
        Due.of("promise 8, split");
        lastOfAChain();
        middleOfAChain();
        longestChain();
        branchOfATree();
        reasonsThatAreLater();
        everyWayOfJoining();
        splitOffAndSplitAgain();
        stretchStays();
        newEventIsOpenAndMarksStay();
        unknownCalls();
        firstOfItsEvent();
        notOpen();
        lastEventAndOneMore();
        eventsThatEndedStillCount();
        unknownGoesBeforeRoom();
        stateGoesBeforeRoom();
        Due.end();
    }

    static void events(String what, CallJoin x, int... want) {
        for (int call = 0; call < want.length; call++) {
            int c = call;
            Due.is(what + ": event of " + call, want[call], () -> x.callAt(c, 0));
        }
    }

    static void reasons(String what, CallJoin x, int... want) {
        for (int call = 0; call < want.length; call++) {
            int c = call;
            Due.is(what + ": reason of " + call, want[call], () -> x.callAt(c, 1));
        }
    }

    private static void lastOfAChain() {
        CallJoin x = Sample.chain(4);
        Due.is("the new event", 1, () -> x.split(3));
        events("last of a chain", x, 0, 0, 0, 1);
        reasons("last of a chain", x, -1, 0, 1, -1);
        Due.is("how it was joined", 0, () -> x.callAt(3, 4));
        Due.is("its event has one call", 1, () -> x.eventAt(1, 1));
        Due.is("the other has three", 3, () -> x.eventAt(0, 1));
    }

    private static void middleOfAChain() {
        CallJoin x = Sample.chain(5);
        Due.is("the new event", 1, () -> x.split(2));
        events("middle of a chain", x, 0, 0, 1, 1, 1);
        reasons("middle of a chain", x, -1, 0, -1, 2, 3);
        Due.is("how it was joined", 0, () -> x.callAt(2, 4));
        Due.is("how those behind it were joined", 1, () -> x.callAt(3, 4));
        Due.is("its first call", 2, () -> x.eventAt(1, 5));
        Due.is("its kind", 2, () -> x.eventAt(1, 2));
        Due.is("its latest time", 4, () -> x.eventAt(1, 6));
        Due.is("the other's first call", 0, () -> x.eventAt(0, 5));
        Due.is("the other's kind", 0, () -> x.eventAt(0, 2));
        Due.is("the other's latest time", 1, () -> x.eventAt(0, 6));
        Due.is("two events", 2, () -> x.count(1));
    }

    private static void longestChain() {
        CallJoin x = Sample.chain(120);
        Due.is("all but the first", 1, () -> x.split(1));
        Due.is("119 calls", 119, () -> x.eventAt(1, 1));
        Due.is("the first is put behind the last", 120, () -> x.merge(0, 119));
        Due.is("all but the first of these", 2, () -> x.split(2));
        Due.is("119 calls", 119, () -> x.eventAt(2, 1));
        Due.is("call 0 is at the chain's end", 2, () -> x.callAt(0, 0));
        Due.is("call 1 stays", 1, () -> x.callAt(1, 0));
        Due.is("the end of the chain", 3, () -> x.split(0));
        Due.is("one call", 1, () -> x.eventAt(3, 1));
        Due.is("118 calls", 118, () -> x.eventAt(2, 1));
    }

    private static void branchOfATree() {
        CallJoin x = Sample.alone(6);
        x.merge(1, 0);
        x.merge(2, 1);
        x.merge(3, 0);
        x.merge(4, 1);
        x.merge(5, 4);
        reasons("the tree", x, -1, 0, 1, 0, 1, 4);
        Due.is("a branch of four", 6, () -> x.split(1));
        events("the branch", x, 0, 6, 6, 0, 6, 6);
        reasons("the branch", x, -1, -1, 1, 0, 1, 4);
        Due.is("how its calls were joined", 5, () -> x.callAt(2, 4));
    }

    private static void reasonsThatAreLater() {
        CallJoin x = new CallJoin();
        x.call(1, 0, -1, 0, -1, 0);
        x.call(1, 0, -1, 0, -1, 1);
        x.call(2, 1, -1, 0, -1, 2);
        x.call(2, 1, -1, 0, -1, 3);
        x.merge(0, 3);
        reasons("merged", x, 3, 0, -1, 2);
        Due.is("the later one takes the earlier ones with it", 2, () -> x.split(3));
        events("split", x, 2, 2, 1, 2);
        reasons("split", x, 3, 0, -1, -1);
        Due.is("its first call is not its lowest", 3, () -> x.eventAt(2, 5));
        Due.is("its kind is that of the first", 1, () -> x.eventAt(2, 2));
        Due.is("the merged one splits too", 3, () -> x.split(0));
        events("split twice", x, 3, 3, 1, 2);
        Due.is("the kind of that", 0, () -> x.eventAt(3, 2));
        Due.is("how it was joined", 0, () -> x.callAt(0, 4));
        Due.is("the old event stays merged", 3, () -> x.eventAt(0, 0));
        Due.is("and empty", 0, () -> x.eventAt(0, 1));
    }

    private static void everyWayOfJoining() {
        CallJoin x = new CallJoin();
        x.point(2, 0);
        x.point(2, Due.at(100, 0));
        x.call(1, 3, Due.at(50, 0), 1, -1, 0);
        x.watch(0, 2, 0, 1);
        x.call(1, 4, -1, 0, -1, 0);
        x.call(2, 3, -1, 0, 2, 0);
        x.call(3, 3, Due.at(50, 60), 1, -1, 0);
        x.call(4, 3, -1, 1, -1, 0);
        x.call(5, 5, -1, 0, -1, 0);
        x.merge(1, 0);
        for (int call = 1; call <= 5; call++) {
            int c = call;
            Due.is("joined by way " + call, c, () -> x.callAt(c, 4));
            Due.is("split", 1 + c, () -> x.split(c));
            Due.is("is the first", 0, () -> x.callAt(c, 4));
            Due.is("has no reason", -1, () -> x.callAt(c, 1));
            Due.is("its event's kind", x.callAt(c, 3), () -> x.eventAt(1 + c, 2));
        }
    }

    private static void splitOffAndSplitAgain() {
        CallJoin x = Sample.chain(3);
        x.split(1);
        Due.is("a call of the new event", 2, () -> x.split(2));
        events("split again", x, 0, 1, 2);
        Due.is("three open ones", 3, () -> x.count(2));
    }

    private static void stretchStays() {
        CallJoin x = new CallJoin();
        x.point(0, 0);
        x.point(0, Due.at(100, 0));
        x.call(1, 0, -1, 0, -1, 0);
        x.call(1, 0, -1, 0, -1, 1);
        x.watch(0, 0, 0, 1);
        x.split(1);
        Due.is("the old event has it", 0, () -> x.reasonFor(8, 0, 0, 0, -1, 1));
        x.state(0, 1);
        Due.is("the new one has none", -1, () -> x.reasonFor(8, 0, 0, 0, -1, 1));
        Due.is("nor by its road", -1, () -> x.reasonFor(8, 0, -1, 0, 0, 1));
    }

    private static void newEventIsOpenAndMarksStay() {
        CallJoin x = Sample.chain(3);
        x.mark(1, 6);
        x.mark(2, 1);
        x.split(1);
        Due.is("it is open", 0, () -> x.eventAt(1, 0));
        Due.is("marks of the one", 6, () -> x.callAt(1, 2));
        Due.is("marks of the other", 1, () -> x.callAt(2, 2));
        Due.is("the hoax is not weighed", 2, () -> x.eventAt(1, 3));
        Due.is("it can be closed", 2, () -> {
            x.state(1, 2);
            return x.eventAt(1, 0);
        });
    }

    private static void unknownCalls() {
        Sight.refusedFor("call", Due.UNKNOWN, Sample::mixed, CallJoin::split, -1, 8, LOW, HIGH);
        Sight.refusedFor("new: call", Due.UNKNOWN, CallJoin::new, CallJoin::split, -1, 0);
        Sight.refusedFor("120 calls: call", Due.UNKNOWN, () -> Sample.chain(120), CallJoin::split, -1, 120);
    }

    private static void firstOfItsEvent() {
        Sight.refused("the first", Due.STATE, () -> Sample.chain(3), x -> x.split(0));
        Sight.refused("the only one", Due.STATE, () -> Sample.alone(2), x -> x.split(1));
        Sight.refused("one that was split", Due.STATE, () -> {
            CallJoin x = Sample.chain(3);
            x.split(1);
            return x;
        }, x -> x.split(1));
        Sight.refused("the first, though not the lowest", Due.STATE, () -> {
            CallJoin x = Sample.alone(2);
            x.merge(0, 1);
            return x;
        }, x -> x.split(1));
    }

    private static void notOpen() {
        for (int state = 1; state < 3; state++) {
            int s = state;
            Sight.Maker maker = () -> {
                CallJoin x = Sample.chain(3);
                x.state(0, s);
                return x;
            };
            Sight.refused("state " + state, Due.STATE, maker, x -> x.split(1));
            Sight.refused("state " + state + ", the last", Due.STATE, maker, x -> x.split(2));
            Sight.refused("state " + state + ", the first", Due.STATE, maker, x -> x.split(0));
            CallJoin y = maker.make();
            y.state(0, 0);
            Due.is("open again after state " + state, 1, () -> y.split(1));
        }
    }

    /** 59 events, the calls 59 and 60 of the line 0 behind them. */
    private static CallJoin roomForOne() {
        CallJoin x = Sample.alone(59);
        x.call(0, 0, -1, 0, -1, 59);
        x.call(0, 0, -1, 0, -1, 60);
        return x;
    }

    private static CallJoin roomForNone() {
        CallJoin x = roomForOne();
        x.split(60);
        return x;
    }

    private static void lastEventAndOneMore() {
        Due.is("the 60th event", 59, () -> roomForOne().split(60));
        Due.is("the 60th event by the other call", 59, () -> roomForOne().split(59));
        Due.is("a second event with 120 calls", 1, () -> Sample.chain(120).split(119));
        Sight.refused("a 61st", Due.ROOM, Promise08SplitTest::roomForNone, x -> x.split(59));
        Sight.refused("a 61st, with 120 calls", Due.ROOM, Sample::full, x -> x.split(119));
    }

    private static void eventsThatEndedStillCount() {
        Sight.refused("a 61st, one is merged", Due.ROOM, () -> {
            CallJoin x = roomForNone();
            x.merge(59, 0);
            return x;
        }, x -> x.split(60));
        Sight.refused("a 61st, one is closed", Due.ROOM, () -> {
            CallJoin x = roomForNone();
            x.state(5, 2);
            return x;
        }, x -> x.split(59));
    }

    private static void unknownGoesBeforeRoom() {
        Sight.refused("unknown call, no room", Due.UNKNOWN, Promise08SplitTest::roomForNone, x -> x.split(61));
        Sight.refused("unknown call, no room", Due.UNKNOWN, Promise08SplitTest::roomForNone, x -> x.split(-1));
    }

    private static void stateGoesBeforeRoom() {
        Sight.refused("a first call, no room", Due.STATE, Promise08SplitTest::roomForNone, x -> x.split(60));
        Sight.refused("not open, no room", Due.STATE, () -> {
            CallJoin x = roomForNone();
            x.state(0, 1);
            return x;
        }, x -> x.split(59));
    }
}

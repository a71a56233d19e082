/** Promise 9: "An event is merged into that of a call, its reason: how many calls that has then." */
public final class Promise09MergeTest {
    private static final int LOW = Integer.MIN_VALUE;
    private static final int HIGH = Integer.MAX_VALUE;

    public static void main(String[] args) {
        Due.of("promise 9, merge");
        twoEventsOfTwo();
        lowerIntoHigher();
        eventWhereTheCallIsNow();
        theMergedEvent();
        theOtherEvent();
        allCallsInOne();
        lastEventIntoTheFirst();
        splitAndMergedAgain();
        stretches();
        unknownEvents();
        unknownCalls();
        theSameEvent();
        theOneIsNotOpen();
        theOtherIsNotOpen();
        theOneIsMerged();
        unknownGoesBeforeState();
        Due.end();
    }

    /** The calls 0 and 1 of kinds 4 and 0 in event 0; 2 and 3 of kinds 5 and 0 in event 1; 4 of kind 6 in event 2. */
    private static CallJoin threeEvents() {
        CallJoin x = new CallJoin();
        x.call(1, 4, -1, 0, -1, 0);
        x.call(1, 0, -1, 0, -1, 1);
        x.call(2, 5, Due.at(7, 7), 0, -1, 2);
        x.call(2, 0, -1, 0, -1, 3);
        x.call(3, 6, -1, 0, -1, 4);
        return x;
    }

    private static void twoEventsOfTwo() {
        CallJoin x = threeEvents();
        Due.is("how many then", 4, () -> x.merge(1, 1));
        Promise08SplitTest.events("merged", x, 0, 0, 0, 0, 2);
        Promise08SplitTest.reasons("merged", x, -1, 0, 1, 2, -1);
        Due.is("how its first call was joined", 5, () -> x.callAt(2, 4));
        Due.is("how its other call was joined", 1, () -> x.callAt(3, 4));
        Due.is("how the other's call was joined", 1, () -> x.callAt(1, 4));
        Due.is("no event more or less", 3, () -> x.count(1));
        Due.is("open ones", 2, () -> x.count(2));
    }

    private static void lowerIntoHigher() {
        CallJoin x = threeEvents();
        Due.is("how many then", 3, () -> x.merge(0, 4));
        Promise08SplitTest.events("merged", x, 2, 2, 1, 1, 2);
        Promise08SplitTest.reasons("merged", x, 4, 0, -1, 2, -1);
        Due.is("the first call is the higher one's", 4, () -> x.eventAt(2, 5));
        Due.is("and so is the kind", 6, () -> x.eventAt(2, 2));
        Due.is("the latest time", 4, () -> x.eventAt(2, 6));
    }

    private static void eventWhereTheCallIsNow() {
        CallJoin x = threeEvents();
        x.merge(1, 1);
        Due.is("into the event that call 3 was merged into", 5, () -> x.merge(2, 3));
        Promise08SplitTest.events("merged twice", x, 0, 0, 0, 0, 0);
        Promise08SplitTest.reasons("merged twice", x, -1, 0, 1, 2, 3);
        CallJoin y = threeEvents();
        y.split(1);
        Due.is("into the event that call 1 was split to", 2, () -> y.merge(2, 1));
        Promise08SplitTest.events("split and merged", y, 0, 3, 1, 1, 3);
    }

    private static void theMergedEvent() {
        CallJoin x = threeEvents();
        x.merge(1, 0);
        int[] want = {3, 0, 5, 0, -1, -1, -1};
        for (int what = 0; what < 7; what++) {
            int w = what;
            Due.is("the merged event's " + what, want[what], () -> x.eventAt(1, w));
        }
        Due.refuses("it has no member", Due.RANGE, () -> x.member(1, 0));
    }

    private static void theOtherEvent() {
        CallJoin x = threeEvents();
        x.merge(1, 0);
        int[] want = {0, 4, 4, 17, Due.at(7, 7), 0, 3};
        for (int what = 0; what < 7; what++) {
            int w = what;
            Due.is("the other event's " + what, want[what], () -> x.eventAt(0, w));
        }
    }

    private static void allCallsInOne() {
        CallJoin x = Sample.full();
        for (int event = 1; event < 60; event++) {
            int e = event;
            Due.is("merge of " + event, 61 + e, () -> x.merge(e, 119));
        }
        Due.is("120 calls in one", 120, () -> x.eventAt(0, 1));
        Due.is("one is open", 1, () -> x.count(2));
        Due.is("60 events as before", 60, () -> x.count(1));
        Due.is("its last call", 119, () -> x.member(0, 119));
    }

    private static void lastEventIntoTheFirst() {
        CallJoin x = Sample.alone(60);
        Due.is("event 59 into that of call 0", 2, () -> x.merge(59, 0));
        Due.is("event 0 into that of call 58", 3, () -> x.merge(0, 58));
        Due.is("the reason of call 0", 58, () -> x.callAt(0, 1));
        Due.is("the reason of call 59", 0, () -> x.callAt(59, 1));
    }

    private static void splitAndMergedAgain() {
        CallJoin x = Sample.chain(3);
        x.split(1);
        Due.is("back to where it was", 3, () -> x.merge(1, 0));
        Promise08SplitTest.reasons("merged back", x, -1, 0, 1);
        Due.is("by a merge now", 5, () -> x.callAt(1, 4));
        Due.is("a split of it is a third event", 2, () -> x.split(1));
        Due.is("the first one under it", 3, () -> x.merge(0, 2));
        Promise08SplitTest.reasons("turned round", x, 2, -1, 1);
        Promise08SplitTest.events("turned round", x, 2, 2, 2);
    }

    private static CallJoin twoWatched() {
        CallJoin x = new CallJoin();
        for (int road = 0; road < 2; road++) {
            x.point(road, Due.at(0, 1000 * road));
            x.point(road, Due.at(100, 1000 * road));
            x.call(1 + road, 0, -1, 0, -1, 0);
            x.watch(road, road, 0, 1);
        }
        return x;
    }

    private static void stretches() {
        CallJoin x = twoWatched();
        x.merge(0, 1);
        Due.is("that of the merged event is gone", -1, () -> x.reasonFor(9, 0, 0, 0, -1, 0));
        Due.is("the other keeps its own", 1, () -> x.reasonFor(9, 0, Due.at(0, 1000), 0, -1, 0));
    }

    private static void unknownEvents() {
        Sight.refusedFor("event", Due.UNKNOWN, Sample::mixed, (x, event) -> x.merge(event, 0), -1, 5, LOW, HIGH);
        Sight.refusedFor("new: event", Due.UNKNOWN, CallJoin::new, (x, event) -> x.merge(event, 0), -1, 0);
        Sight.refusedFor("full: event", Due.UNKNOWN, Sample::full, (x, event) -> x.merge(event, 0), -1, 60);
    }

    private static void unknownCalls() {
        Sight.refusedFor("call", Due.UNKNOWN, Sample::mixed, (x, call) -> x.merge(0, call), -1, 8, LOW, HIGH);
        Sight.refusedFor("full: call", Due.UNKNOWN, Sample::full, (x, call) -> x.merge(0, call), -1, 120);
    }

    private static void theSameEvent() {
        Sight.refused("into that of its first call", Due.STATE, Sample::mixed, x -> x.merge(0, 0));
        Sight.refused("into that of a joined call", Due.STATE, Sample::mixed, x -> x.merge(0, 7));
        Sight.refused("into that of a merged call", Due.STATE, Sample::mixed, x -> x.merge(0, 6));
        Sight.refused("an event of one call", Due.STATE, Sample::mixed, x -> x.merge(4, 4));
        Sight.refused("the same, closed", Due.STATE, Sample::mixed, x -> x.merge(2, 2));
    }

    private static void theOneIsNotOpen() {
        Sight.refused("handed over", Due.STATE, Sample::mixed, x -> x.merge(1, 0));
        Sight.refused("closed", Due.STATE, Sample::mixed, x -> x.merge(2, 0));
        CallJoin x = Sample.mixed();
        x.state(1, 0);
        Due.is("open again", 6, () -> x.merge(1, 0));
    }

    private static void theOtherIsNotOpen() {
        Sight.refused("into a handed-over one", Due.STATE, Sample::mixed, x -> x.merge(0, 1));
        Sight.refused("into a closed one", Due.STATE, Sample::mixed, x -> x.merge(0, 2));
        Sight.refused("neither is open", Due.STATE, Sample::mixed, x -> x.merge(1, 2));
        CallJoin x = Sample.mixed();
        x.state(2, 0);
        Due.is("open again", 6, () -> x.merge(0, 2));
    }

    private static void theOneIsMerged() {
        Sight.refused("into the event where its calls are", Due.STATE, Sample::mixed, x -> x.merge(3, 3));
        Sight.refused("into another one", Due.STATE, Sample::mixed, x -> x.merge(3, 4));
    }

    private static void unknownGoesBeforeState() {
        Sight.refused("unknown call, a closed event", Due.UNKNOWN, Sample::mixed, x -> x.merge(2, 8));
        Sight.refused("unknown call, a merged event", Due.UNKNOWN, Sample::mixed, x -> x.merge(3, -1));
        Sight.refused("unknown event, a closed one's call", Due.UNKNOWN, Sample::mixed, x -> x.merge(5, 2));
    }
}

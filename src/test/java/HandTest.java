/** Promises 7 to 11: mark, split, merge, watch, state. */
public final class HandTest {
    public static void main(String[] args) {
        marks();
        splitChain();
        splitTree();
        splitAcrossMerge();
        splitRefuses();
        splitRoom();
        merges();
        mergeRefuses();
        longChain();
        watches();
        watchRefuses();
        states();
        stateRefuses();
        Due.end();
    }

    private static CallJoin alone(int calls) {
        CallJoin x = new CallJoin();
        for (int line = 0; line < calls; line++) {
            x.call(line, line % 8, -1, 0, -1, line);
        }
        return x;
    }

    private static void events(CallJoin x, int... want) {
        for (int call = 0; call < want.length; call++) {
            int c = call;
            Due.is("event of " + call, want[call], () -> x.callAt(c, 0));
        }
    }

    private static void reasons(CallJoin x, int... want) {
        for (int call = 0; call < want.length; call++) {
            int c = call;
            Due.is("reason of " + call, want[call], () -> x.callAt(c, 1));
        }
    }

    private static void marks() {
        CallJoin x = alone(2);
        for (int marks = 7; marks >= 0; marks--) {
            int m = marks;
            x.mark(1, m);
            Due.is("marks " + m, m, () -> x.callAt(1, 2));
            Due.is("marks of another", 0, () -> x.callAt(0, 2));
        }
        x.mark(1, 5);
        Due.refuses("call -1", Due.UNKNOWN, () -> x.mark(-1, 0));
        Due.refuses("call 2", Due.UNKNOWN, () -> x.mark(2, 0));
        Due.refuses("unknown goes before range", Due.UNKNOWN, () -> x.mark(2, 8));
        Due.refuses("marks -1", Due.RANGE, () -> x.mark(1, -1));
        Due.refuses("marks 8", Due.RANGE, () -> x.mark(1, 8));
        Due.is("what is refused changes nothing", 5, () -> x.callAt(1, 2));
        x.state(1, 2);
        x.mark(1, 4);
        Due.is("in a closed event too", 4, () -> x.callAt(1, 2));
    }

    private static void splitChain() {
        CallJoin x = new CallJoin();
        x.point(0, 0);
        x.point(0, Due.at(100, 0));
        for (int t = 0; t < 5; t++) {
            x.call(7, t, -1, 0, -1, t);
        }
        x.watch(0, 0, 0, 1);
        Due.is("the new event", 1, () -> x.split(2));
        events(x, 0, 0, 1, 1, 1);
        reasons(x, -1, 0, -1, 2, 3);
        Due.is("it is first", 0, () -> x.callAt(2, 4));
        Due.is("those behind it stay joined", 1, () -> x.callAt(3, 4));
        Due.is("first call", 2, () -> x.eventAt(1, 5));
        Due.is("its kind", 2, () -> x.eventAt(1, 2));
        Due.is("it is open", 0, () -> x.eventAt(1, 0));
        Due.is("the other's kind", 0, () -> x.eventAt(0, 2));
        Due.is("the other's first", 0, () -> x.eventAt(0, 5));
        Due.is("the stretch stays with the other", 0, () -> x.reasonFor(8, 0, 0, 0, -1, 5));
        Due.is("the new one has no stretch", -1, () -> x.reasonFor(8, 2, 0, 0, -1, 5));
    }

    private static void splitTree() {
        CallJoin x = alone(5);
        x.merge(1, 0);
        x.merge(2, 1);
        x.merge(3, 0);
        x.merge(4, 1);
        reasons(x, -1, 0, 1, 0, 1);
        Due.is("a branch of three", 5, () -> x.split(1));
        events(x, 0, 5, 5, 0, 5);
    }

    private static void splitAcrossMerge() {
        CallJoin x = new CallJoin();
        x.call(1, 0, -1, 0, -1, 0);
        x.call(1, 0, -1, 0, -1, 1);
        x.call(2, 1, -1, 0, -1, 2);
        x.call(2, 1, -1, 0, -1, 3);
        x.merge(0, 3);
        reasons(x, 3, 0, -1, 2);
        events(x, 1, 1, 1, 1);
        Due.is("a reason may be later than what it joins", 2, () -> x.split(3));
        events(x, 2, 2, 1, 2);
        reasons(x, 3, 0, -1, -1);
        Due.is("first call is not the lowest", 3, () -> x.eventAt(2, 5));
        Due.is("kind of the first call", 1, () -> x.eventAt(2, 2));
        Due.is("how the merged one was joined", 5, () -> x.callAt(0, 4));
        Due.is("the merged one splits", 3, () -> x.split(0));
        events(x, 3, 3, 1, 2);
        Due.is("kind of the split one", 0, () -> x.eventAt(3, 2));
        Due.is("it is first", 0, () -> x.callAt(0, 4));
        Due.is("the old event stays merged", 3, () -> x.eventAt(0, 0));
    }

    private static void splitRefuses() {
        CallJoin x = new CallJoin();
        x.call(1, 0, -1, 0, -1, 0);
        x.call(1, 0, -1, 0, -1, 0);
        Due.refuses("call -1", Due.UNKNOWN, () -> x.split(-1));
        Due.refuses("call 2", Due.UNKNOWN, () -> x.split(2));
        Due.refuses("the first", Due.STATE, () -> x.split(0));
        x.state(0, 1);
        Due.refuses("handed over", Due.STATE, () -> x.split(1));
        x.state(0, 2);
        Due.refuses("closed", Due.STATE, () -> x.split(1));
        events(x, 0, 0);
        Due.is("no event more", 1, () -> x.count(1));
        x.state(0, 0);
        Due.is("open again", 1, () -> x.split(1));
        Due.refuses("it is the first now", Due.STATE, () -> x.split(1));
    }

    private static void splitRoom() {
        CallJoin x = alone(59);
        x.call(0, 0, -1, 0, -1, 59);
        x.call(0, 0, -1, 0, -1, 60);
        Due.is("the 60th event", 59, () -> x.split(60));
        Due.refuses("a 61st", Due.ROOM, () -> x.split(59));
        Due.refuses("state goes before room", Due.STATE, () -> x.split(60));
        Due.is("what is refused changes nothing", 0, () -> x.callAt(59, 0));
        Due.is("its reason too", 0, () -> x.callAt(59, 1));
        x.merge(59, 0);
        Due.refuses("a merged event still counts", Due.ROOM, () -> x.split(60));
    }

    private static void merges() {
        CallJoin x = new CallJoin();
        x.call(1, 4, -1, 0, -1, 0);
        x.call(1, 0, -1, 0, -1, 1);
        x.call(2, 5, -1, 0, -1, 2);
        x.call(2, 0, -1, 0, -1, 3);
        x.call(3, 6, -1, 0, -1, 4);
        Due.is("how many then", 4, () -> x.merge(1, 1));
        events(x, 0, 0, 0, 0, 2);
        reasons(x, -1, 0, 1, 2, -1);
        Due.is("by a merge", 5, () -> x.callAt(2, 4));
        Due.is("the others as they were", 1, () -> x.callAt(3, 4));
        Due.is("merged", 3, () -> x.eventAt(1, 0));
        Due.is("no calls", 0, () -> x.eventAt(1, 1));
        Due.is("no weight", 0, () -> x.eventAt(1, 3));
        Due.is("no point", -1, () -> x.eventAt(1, 4));
        Due.is("no first call", -1, () -> x.eventAt(1, 5));
        Due.is("no time", -1, () -> x.eventAt(1, 6));
        Due.is("the kind that it had", 5, () -> x.eventAt(1, 2));
        Due.is("two open ones", 2, () -> x.count(2));
        Due.is("the first stays", 0, () -> x.eventAt(0, 5));
        Due.is("the lower into the higher", 5, () -> x.merge(0, 4));
        events(x, 2, 2, 2, 2, 2);
        reasons(x, 4, 0, 1, 2, -1);
        Due.is("the first is the higher one's", 4, () -> x.eventAt(2, 5));
        Due.is("its kind", 6, () -> x.eventAt(2, 2));
    }

    private static void mergeRefuses() {
        CallJoin x = alone(4);
        Due.refuses("event -1", Due.UNKNOWN, () -> x.merge(-1, 0));
        Due.refuses("event 4", Due.UNKNOWN, () -> x.merge(4, 0));
        Due.refuses("call -1", Due.UNKNOWN, () -> x.merge(0, -1));
        Due.refuses("call 4", Due.UNKNOWN, () -> x.merge(0, 4));
        Due.refuses("the same", Due.STATE, () -> x.merge(2, 2));
        for (int s = 1; s <= 2; s++) {
            x.state(1, s);
            Due.refuses("the one is not open", Due.STATE, () -> x.merge(1, 0));
            Due.refuses("the other is not open", Due.STATE, () -> x.merge(0, 1));
        }
        events(x, 0, 1, 2, 3);
        reasons(x, -1, -1, -1, -1);
        x.state(1, 0);
        x.merge(1, 0);
        Due.refuses("the one is merged", Due.STATE, () -> x.merge(1, 2));
        Due.refuses("the same by then", Due.STATE, () -> x.merge(0, 1));
        Due.is("into the event where the call is now", 3, () -> x.merge(2, 1));
        events(x, 0, 0, 0, 3);
    }

    /** Merges can turn a chain of reasons round, so that it is as long as there are calls. */
    private static void longChain() {
        CallJoin x = new CallJoin();
        for (int call = 0; call < 120; call++) {
            x.call(1, 0, -1, 0, -1, call);
        }
        Due.is("a branch of 119", 1, () -> x.split(1));
        Due.is("119 there", 119, () -> x.eventAt(1, 1));
        Due.is("back again", 120, () -> x.merge(0, 119));
        reasons(x, 119, -1, 1);
        Due.is("the end of the chain alone", 2, () -> x.split(0));
        Due.is("1 there", 1, () -> x.eventAt(2, 1));
        x.merge(2, 119);
        Due.is("from the second", 3, () -> x.split(2));
        Due.is("119 there", 119, () -> x.eventAt(3, 1));
        Due.is("the lowest is the end of the chain", 0, () -> x.member(3, 0));
    }

    private static void watches() {
        CallJoin x = alone(1);
        for (int i = 0; i < 8; i++) {
            x.point(7, Due.at(1000 * i, 0));
        }
        x.point(0, Due.at(0, 5000));
        x.point(0, Due.at(0, 6000));
        x.watch(0, 7, 0, 7);
        Due.is("all of a road", 0, () -> x.reasonFor(1, 0, Due.at(7050, 0), 0, -1, 0));
        x.watch(0, 0, 0, 1);
        Due.is("instead of another one", -1, () -> x.reasonFor(1, 0, Due.at(7000, 0), 0, -1, 0));
        Due.is("the new one", 0, () -> x.reasonFor(1, 0, Due.at(0, 5500), 0, -1, 0));
        Due.is("the new one's road", 0, () -> x.reasonFor(1, 0, -1, 0, 0, 0));
        Due.is("not the old one's", -1, () -> x.reasonFor(1, 0, -1, 0, 7, 0));
    }

    private static void watchRefuses() {
        CallJoin x = alone(1);
        x.point(0, 0);
        x.point(0, Due.at(100, 0));
        x.point(1, 0);
        Due.refuses("event -1", Due.UNKNOWN, () -> x.watch(-1, 0, 0, 1));
        Due.refuses("event 1", Due.UNKNOWN, () -> x.watch(1, 0, 0, 1));
        Due.refuses("road -1", Due.UNKNOWN, () -> x.watch(0, -1, 0, 1));
        Due.refuses("road 8", Due.UNKNOWN, () -> x.watch(0, 8, 0, 1));
        Due.refuses("unknown goes before range", Due.UNKNOWN, () -> x.watch(1, 0, 5, 5));
        Due.refuses("a -1", Due.RANGE, () -> x.watch(0, 0, -1, 1));
        Due.refuses("a 2", Due.RANGE, () -> x.watch(0, 0, 2, 1));
        Due.refuses("b -1", Due.RANGE, () -> x.watch(0, 0, 0, -1));
        Due.refuses("b 2", Due.RANGE, () -> x.watch(0, 0, 0, 2));
        Due.refuses("the same", Due.RANGE, () -> x.watch(0, 0, 1, 1));
        Due.refuses("a road with one point", Due.RANGE, () -> x.watch(0, 1, 0, 1));
        Due.refuses("an empty road", Due.RANGE, () -> x.watch(0, 2, 0, 1));
        Due.is("no stretch yet", -1, () -> x.reasonFor(1, 0, 0, 0, -1, 0));
        for (int s = 1; s <= 2; s++) {
            x.state(0, s);
            Due.refuses("not open", Due.STATE, () -> x.watch(0, 0, 0, 1));
            Due.refuses("range goes before state", Due.RANGE, () -> x.watch(0, 0, 0, 2));
        }
        x.state(0, 0);
        Due.is("still no stretch", -1, () -> x.reasonFor(1, 0, 0, 0, -1, 0));
    }

    private static void states() {
        CallJoin x = alone(2);
        int[] way = {1, 2, 1, 0, 2, 0};
        for (int s : way) {
            x.state(1, s);
            Due.is("state " + s, s, () -> x.eventAt(1, 0));
            Due.is("open ones", s == 0 ? 2 : 1, () -> x.count(2));
        }
        Due.is("the other one", 0, () -> x.eventAt(0, 0));
    }

    private static void stateRefuses() {
        CallJoin x = alone(2);
        Due.refuses("event -1", Due.UNKNOWN, () -> x.state(-1, 1));
        Due.refuses("event 2", Due.UNKNOWN, () -> x.state(2, 1));
        Due.refuses("unknown goes before range", Due.UNKNOWN, () -> x.state(2, 3));
        Due.refuses("state -1", Due.RANGE, () -> x.state(0, -1));
        Due.refuses("state 3", Due.RANGE, () -> x.state(0, 3));
        Due.refuses("it is open", Due.STATE, () -> x.state(0, 0));
        x.state(0, 1);
        Due.refuses("it is handed over", Due.STATE, () -> x.state(0, 1));
        x.state(0, 2);
        Due.refuses("it is closed", Due.STATE, () -> x.state(0, 2));
        x.state(0, 0);
        x.merge(0, 1);
        for (int s = 0; s <= 2; s++) {
            int to = s;
            Due.refuses("it was merged", Due.STATE, () -> x.state(0, to));
        }
        Due.refuses("range goes before state", Due.RANGE, () -> x.state(0, 3));
        Due.is("still merged", 3, () -> x.eventAt(0, 0));
    }
}

/** Promise 16: "Call i of an event, by numbers." */
public final class Promise16MemberTest {
    private static final int LOW = Integer.MIN_VALUE;
    private static final int HIGH = Integer.MAX_VALUE;

    public static void main(String[] args) {
        Due.of("promise 16, member");
        oneCall();
        oddAndEvenCalls();
        byNumbersNotByReasons();
        afterASplit();
        hoaxesAndStates();
        firstAndLastOfAll();
        unknownEvents();
        membersOutOfRange();
        mergedEventHasNone();
        unknownGoesBeforeRange();
        Due.end();
    }

    private static void members(String what, CallJoin x, int event, int... want) {
        for (int i = 0; i < want.length; i++) {
            int n = i;
            Due.is(what + ": member " + i + " of " + event, want[i], () -> x.member(event, n));
        }
        Due.refuses(what + ": one more of " + event, Due.RANGE, () -> x.member(event, want.length));
        Due.refuses(what + ": one less of " + event, Due.RANGE, () -> x.member(event, -1));
    }

    private static void oneCall() {
        CallJoin x = Sample.alone(3);
        for (int event = 0; event < 3; event++) {
            members("one call", x, event, event);
        }
    }

    private static void oddAndEvenCalls() {
        CallJoin x = new CallJoin();
        for (int call = 0; call < 8; call++) {
            x.call(call % 2, 0, -1, 0, -1, 0);
        }
        members("even", x, 0, 0, 2, 4, 6);
        members("odd", x, 1, 1, 3, 5, 7);
    }

    private static void byNumbersNotByReasons() {
        CallJoin x = Sample.alone(5);
        x.merge(3, 4);
        x.merge(0, 3);
        x.merge(1, 0);
        members("merged", x, 4, 0, 1, 3, 4);
        members("the other", x, 2, 2);
    }

    private static void afterASplit() {
        CallJoin x = Sample.chain(5);
        x.split(2);
        members("what stays", x, 0, 0, 1);
        members("what is split off", x, 1, 2, 3, 4);
    }

    private static void hoaxesAndStates() {
        CallJoin x = Sample.chain(3);
        x.mark(1, 4);
        members("with a hoax", x, 0, 0, 1, 2);
        x.state(0, 1);
        members("handed over", x, 0, 0, 1, 2);
        x.state(0, 2);
        members("closed", x, 0, 0, 1, 2);
    }

    private static void firstAndLastOfAll() {
        CallJoin x = Sample.chain(120);
        Due.is("the first of 120", 0, () -> x.member(0, 0));
        Due.is("the last of 120", 119, () -> x.member(0, 119));
        Due.refuses("one more", Due.RANGE, () -> x.member(0, 120));
        CallJoin y = Sample.full();
        members("the last event", y, 59, 59);
        Due.is("the last of event 0", 119, () -> y.member(0, 60));
        Due.is("the second of event 0", 60, () -> y.member(0, 1));
        Due.refuses("one more of event 0", Due.RANGE, () -> y.member(0, 61));
    }

    private static void unknownEvents() {
        Sight.refusedFor("event", Due.UNKNOWN, Sample::mixed, (x, event) -> x.member(event, 0), -1, 5, LOW, HIGH);
        Sight.refusedFor("new: event", Due.UNKNOWN, CallJoin::new, (x, event) -> x.member(event, 0), -1, 0);
        Sight.refusedFor("full: event", Due.UNKNOWN, Sample::full, (x, event) -> x.member(event, 0), -1, 60);
    }

    private static void membersOutOfRange() {
        Sight.refusedFor("five calls: member", Due.RANGE, Sample::mixed, (x, i) -> x.member(0, i), -1, 5, LOW, HIGH);
        Sight.refusedFor("one call: member", Due.RANGE, Sample::mixed, (x, i) -> x.member(4, i), -1, 1, LOW, HIGH);
        members("five calls", Sample.mixed(), 0, 0, 3, 5, 6, 7);
    }

    private static void mergedEventHasNone() {
        Sight.refusedFor("merged: member", Due.RANGE, Sample::mixed, (x, i) -> x.member(3, i), -1, 0, 1);
    }

    private static void unknownGoesBeforeRange() {
        Sight.refused("unknown event, member", Due.UNKNOWN, Sample::mixed, x -> x.member(5, -1));
        Sight.refused("unknown event, member", Due.UNKNOWN, Sample::mixed, x -> x.member(-1, 120));
    }
}

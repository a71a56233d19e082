import java.math.BigInteger;
import java.util.ArrayList;
import java.util.Comparator;
import java.util.List;

/** The document once more, written with the library and with other means than the class, to compare with. */
final class Model {
    static final class Call {
        int number;
        int line;
        int kind;
        int point;
        int words;
        int road;
        int time;
        int marks;
        int how;
        Call reason;
        Event event;

        boolean hoax() {
            return marks >= 4;
        }

        boolean placed() {
            return point >= 0;
        }
    }

    static final class Event {
        int number;
        int state;
        int kind;
        List<Integer> stretch = List.of();
        int stretchRoad;
    }

    final int[][] rules = new int[8][];
    final int[][] weights = new int[8][32];
    final List<List<Integer>> roads = new ArrayList<>();
    final List<Call> calls = new ArrayList<>();
    final List<Event> events = new ArrayList<>();

    Model() {
        for (int i = 0; i < 8; i++) {
            rules[i] = new int[] {200, 600, 1, 2};
            java.util.Arrays.fill(weights[i], 1);
            roads.add(new ArrayList<>());
        }
    }

    private static void unknownIf(boolean bad) {
        if (bad) {
            throw new IllegalArgumentException();
        }
    }

    private static void rangeIf(boolean bad) {
        if (bad) {
            throw new IndexOutOfBoundsException();
        }
    }

    private static void stateIf(boolean bad) {
        if (bad) {
            throw new IllegalStateException();
        }
    }

    private static void roomIf(boolean bad) {
        if (bad) {
            throw new UnsupportedOperationException();
        }
    }

    private Call callOf(int number) {
        unknownIf(number < 0 || number >= calls.size());
        return calls.get(number);
    }

    private Event eventOf(int number) {
        unknownIf(number < 0 || number >= events.size());
        return events.get(number);
    }

    private List<Call> callsIn(Event event) {
        return calls.stream().filter(c -> c.event == event).toList();
    }

    private Call firstOf(Event event) {
        return callsIn(event).stream().filter(c -> c.reason == null).findFirst().orElse(null);
    }

    int rule(int kind, int distance, int span, int p, int q) {
        unknownIf(kind < 0 || kind > 7);
        rangeIf(distance < 0 || distance > 20000 || span < 0 || span > 100000);
        rangeIf(p < 0 || p > 100 || q < 1 || q > 100);
        rules[kind] = new int[] {distance, span, p, q};
        return 0;
    }

    int weight(int kind, int word, int w) {
        unknownIf(kind < 0 || kind > 7 || word < 0 || word > 31);
        rangeIf(w < 0 || w > 100);
        weights[kind][word] = w;
        return 0;
    }

    int point(int road, int point) {
        unknownIf(road < 0 || road > 7);
        rangeIf(point < 0 || point > 99999999);
        roomIf(roads.get(road).size() == 8);
        roads.get(road).add(point);
        return roads.get(road).size();
    }

    int call(int line, int kind, int point, int words, int road, int t) {
        Call call = made(line, kind, point, words, road, t);
        roomIf(calls.size() == 120);
        join(call);
        if (call.reason == null) {
            roomIf(events.size() == 60);
            call.event = begun(call.kind);
        } else {
            call.event = call.reason.event;
        }
        calls.add(call);
        return call.number;
    }

    int reasonFor(int line, int kind, int point, int words, int road, int t) {
        Call call = made(line, kind, point, words, road, t);
        join(call);
        return call.reason == null ? -1 : call.reason.number;
    }

    private Event begun(int kind) {
        Event event = new Event();
        event.number = events.size();
        event.kind = kind;
        events.add(event);
        return event;
    }

    private Call made(int line, int kind, int point, int words, int road, int t) {
        unknownIf(kind < 0 || kind > 7 || road < -1 || road > 7);
        rangeIf(line < 0 || line > 999 || point < -1 || point > 99999999 || t < 0);
        rangeIf(!calls.isEmpty() && t < calls.get(calls.size() - 1).time);
        Call call = new Call();
        call.number = calls.size();
        call.line = line;
        call.kind = kind;
        call.point = point;
        call.words = words;
        call.road = road;
        call.time = t;
        return call;
    }

    private void join(Call call) {
        List<Call> live = calls.stream().filter(c -> c.event.state == 0 && !c.hoax()).toList();
        List<Call> sameLine = live.stream().filter(c -> c.line == call.line).toList();
        if (!sameLine.isEmpty()) {
            Call latest = sameLine.get(sameLine.size() - 1);
            if (call.time - latest.time <= rules[call.kind][1]) {
                call.reason = latest;
                call.how = 1;
                return;
            }
        }
        for (Event event : events) {
            if (event.state == 0 && event.kind == call.kind && isOn(call, event)) {
                call.reason = firstOf(event);
                call.how = 2;
                return;
            }
        }
        List<Call> byPlace = live.stream().filter(c -> c.kind == call.kind && agreement(c, call) == 1).toList();
        if (!byPlace.isEmpty()) {
            call.reason = byPlace.stream().min(Comparator.comparing(c -> square(c.point, call.point))).get();
            call.how = 3;
            return;
        }
        Call best = null;
        for (Call c : live) {
            if (c.kind == call.kind && agreement(c, call) == 2
                    && (best == null || compare(shareOf(c, call), shareOf(best, call)) > 0)) {
                best = c;
            }
        }
        call.reason = best;
        call.how = best == null ? 0 : 4;
    }

    private static int compare(BigInteger[] a, BigInteger[] b) {
        return a[0].multiply(b[1]).compareTo(b[0].multiply(a[1]));
    }

    private BigInteger[] shareOf(Call earlier, Call later) {
        long both = 0;
        long either = 0;
        for (int word = 0; word < 32; word++) {
            boolean one = (earlier.words & 1 << word) != 0;
            boolean other = (later.words & 1 << word) != 0;
            both += one && other ? weights[later.kind][word] : 0;
            either += one || other ? weights[later.kind][word] : 0;
        }
        return either == 0 ? null : new BigInteger[] {BigInteger.valueOf(both), BigInteger.valueOf(either)};
    }

    private int agreement(Call earlier, Call later) {
        int[] rule = rules[later.kind];
        if (later.time - earlier.time > rule[1]) {
            return 0;
        }
        BigInteger[] share = shareOf(earlier, later);
        boolean enough = share != null
            && compare(share, new BigInteger[] {BigInteger.valueOf(rule[2]), BigInteger.valueOf(rule[3])}) >= 0;
        if (!earlier.placed() || !later.placed()) {
            return enough ? 2 : 0;
        }
        long square = square(earlier.point, later.point);
        long most = (long) rule[0] * rule[0];
        if (square > most) {
            return 0;
        }
        return (share == null ? 4 * square <= most : enough) ? 1 : 0;
    }

    private static long square(int a, int b) {
        long x = a / 10000 - b / 10000;
        long y = a % 10000 - b % 10000;
        return x * x + y * y;
    }

    private static boolean isOn(Call call, Event event) {
        if (event.stretch.isEmpty()) {
            return false;
        }
        if (!call.placed()) {
            return call.road == event.stretchRoad;
        }
        for (int i = 1; i < event.stretch.size(); i++) {
            if (isNear(event.stretch.get(i - 1), event.stretch.get(i), call.point)) {
                return true;
            }
        }
        return false;
    }

    /** By the triangle's three sides: at an obtuse angle an end is nearest, else it is the height. */
    private static boolean isNear(int a, int b, int p) {
        long ab = square(a, b);
        long ap = square(a, p);
        long bp = square(b, p);
        if (Math.min(ap, bp) <= 2500) {
            return true;
        }
        if (ab == 0 || ap >= bp + ab || bp >= ap + ab) {
            return false;
        }
        BigInteger side = BigInteger.valueOf(ab);
        BigInteger part = BigInteger.valueOf(ab + ap - bp);
        BigInteger heightTimes = BigInteger.valueOf(4).multiply(side).multiply(BigInteger.valueOf(ap)).subtract(part.pow(2));
        return heightTimes.compareTo(side.multiply(BigInteger.valueOf(4L * 2500))) <= 0;
    }

    int mark(int call, int marks) {
        Call c = callOf(call);
        rangeIf(marks < 0 || marks > 7);
        c.marks = marks;
        return 0;
    }

    int split(int call) {
        Call c = callOf(call);
        stateIf(c.reason == null || c.event.state != 0);
        roomIf(events.size() == 60);
        Event event = begun(c.kind);
        c.reason = null;
        c.how = 0;
        moveWithFollowers(c, event);
        return event.number;
    }

    private void moveWithFollowers(Call call, Event event) {
        call.event = event;
        for (Call c : calls) {
            if (c.reason == call) {
                moveWithFollowers(c, event);
            }
        }
    }

    int merge(int event, int call) {
        Event from = eventOf(event);
        Call c = callOf(call);
        Event to = c.event;
        stateIf(from.state != 0 || to.state != 0 || from == to);
        Call first = firstOf(from);
        callsIn(from).forEach(each -> each.event = to);
        first.reason = c;
        first.how = 5;
        from.state = 3;
        return callsIn(to).size();
    }

    int watch(int event, int road, int a, int b) {
        Event e = eventOf(event);
        unknownIf(road < 0 || road > 7);
        int size = roads.get(road).size();
        rangeIf(a < 0 || b < 0 || a >= size || b >= size || a == b);
        stateIf(e.state != 0);
        e.stretch = List.copyOf(roads.get(road).subList(Math.min(a, b), Math.max(a, b) + 1));
        e.stretchRoad = road;
        return 0;
    }

    int state(int event, int s) {
        Event e = eventOf(event);
        rangeIf(s < 0 || s > 2);
        stateIf(e.state == s || e.state == 3);
        e.state = s;
        return 0;
    }

    int share(int a, int b) {
        unknownIf(callOf(a) == callOf(b));
        BigInteger[] share = shareOf(callOf(Math.min(a, b)), callOf(Math.max(a, b)));
        if (share == null) {
            throw new ArithmeticException();
        }
        return share[0].multiply(BigInteger.valueOf(1000)).divide(share[1]).intValueExact();
    }

    int agree(int a, int b) {
        unknownIf(callOf(a) == callOf(b));
        return agreement(callOf(Math.min(a, b)), callOf(Math.max(a, b)));
    }

    int callAt(int call, int what) {
        Call c = callOf(call);
        unknownIf(what < 0 || what > 4);
        int reason = c.reason == null ? -1 : c.reason.number;
        return new int[] {c.event.number, reason, c.marks, c.kind, c.how}[what];
    }

    int eventAt(int event, int what) {
        Event e = eventOf(event);
        unknownIf(what < 0 || what > 6);
        List<Call> all = callsIn(e);
        List<Call> real = all.stream().filter(c -> !c.hoax()).toList();
        int weight = real.stream().mapToInt(c -> 4 - 2 * (c.marks & 1) + (c.placed() ? 1 : 0)).sum();
        int point = real.stream().filter(Call::placed).mapToInt(c -> c.point).findFirst().orElse(-1);
        int first = all.isEmpty() ? -1 : firstOf(e).number;
        int latest = all.stream().mapToInt(c -> c.time).max().orElse(-1);
        return new int[] {e.state, all.size(), e.kind, weight, point, first, latest}[what];
    }

    int member(int event, int i) {
        List<Call> all = callsIn(eventOf(event));
        rangeIf(i < 0 || i >= all.size());
        return all.get(i).number;
    }

    int count(int what) {
        unknownIf(what < 0 || what > 3);
        long open = events.stream().filter(e -> e.state == 0).count();
        long hoaxes = calls.stream().filter(Call::hoax).count();
        return new int[] {calls.size(), events.size(), (int) open, (int) hoaxes}[what];
    }
}

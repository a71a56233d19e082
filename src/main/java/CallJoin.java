import java.util.Arrays;

/** Emergency calls that are joined to events; ../shared/DOC.md says what each method promises. */
public final class CallJoin {
    private static final int KINDS = 8;
    private static final int WORDS = 32;
    private static final int ROADS = 8;
    private static final int ROAD_POINTS = 8;
    private static final int LINES = 1_000;
    private static final int CALLS = 120;
    private static final int EVENTS = 60;
    private static final int MARKS = 8;

    private static final int SIDE = 10_000;
    private static final int POINTS = SIDE * SIDE;
    private static final int NONE = -1;

    private static final int MOST_DISTANCE = 20_000;
    private static final int MOST_SPAN = 100_000;
    private static final int MOST_NEED = 100;
    private static final int MOST_WEIGHT = 100;
    private static final long REACH_SQUARE = 50L * 50L;

    private static final int SILENT = 1;
    private static final int HOAX = 4;

    private static final int OPEN = 0;
    private static final int CLOSED = 2;
    private static final int MERGED = 3;

    private static final int FIRST = 0;
    private static final int AGAIN = 1;
    private static final int STRETCH = 2;
    private static final int PLACE = 3;
    private static final int WORDING = 4;
    private static final int MERGING = 5;

    private static final int NO_AGREEMENT = 0;
    private static final int AGREE_BY_PLACE = 1;
    private static final int AGREE_BY_WORDS = 2;

    private final Rules rules;
    private final Roads roads;
    private final Calls calls;
    private final Events events;

    public CallJoin() {
        rules = new Rules();
        roads = new Roads();
        calls = new Calls();
        events = new Events();
    }

    public void rule(int kind, int distance, int span, int p, int q)
            throws IllegalArgumentException, IndexOutOfBoundsException {
        needKnown(isBelow(kind, KINDS));
        needRange(isBelow(distance, MOST_DISTANCE + 1));
        needRange(isBelow(span, MOST_SPAN + 1));
        needRange(isBelow(p, MOST_NEED + 1));
        needRange(q >= 1 && q <= MOST_NEED);
        rules.distance[kind] = distance;
        rules.span[kind] = span;
        rules.needOver[kind] = p;
        rules.needUnder[kind] = q;
    }

    public void weight(int kind, int word, int w) throws IllegalArgumentException, IndexOutOfBoundsException {
        needKnown(isBelow(kind, KINDS) && isBelow(word, WORDS));
        needRange(isBelow(w, MOST_WEIGHT + 1));
        rules.weights[kind * WORDS + word] = w;
    }

    public int point(int road, int point)
            throws IllegalArgumentException, IndexOutOfBoundsException, UnsupportedOperationException {
        needKnown(isBelow(road, ROADS));
        needRange(isBelow(point, POINTS));
        needRoom(roads.size[road] < ROAD_POINTS);
        return roads.append(road, point);
    }

    public int call(int line, int kind, int point, int words, int road, int t)
            throws IllegalArgumentException, IndexOutOfBoundsException, UnsupportedOperationException {
        needCallData(line, kind, point, road, t);
        needRoom(calls.size < CALLS);
        int call = calls.draft(line, kind, point, words, road, t);
        seekReason(call);
        int reason = calls.reason[call];
        if (reason == NONE) {
            needRoom(events.size < EVENTS);
            calls.event[call] = events.begin(kind, call);
        } else {
            calls.event[call] = calls.event[reason];
        }
        calls.size++;
        return call;
    }

    public int reasonFor(int line, int kind, int point, int words, int road, int t)
            throws IllegalArgumentException, IndexOutOfBoundsException {
        needCallData(line, kind, point, road, t);
        int draft = calls.draft(line, kind, point, words, road, t);
        seekReason(draft);
        return calls.reason[draft];
    }

    public void mark(int call, int marks) throws IllegalArgumentException, IndexOutOfBoundsException {
        needKnown(isBelow(call, calls.size));
        needRange(isBelow(marks, MARKS));
        calls.marks[call] = marks;
    }

    public int split(int call)
            throws IllegalArgumentException, IllegalStateException, UnsupportedOperationException {
        needKnown(isBelow(call, calls.size));
        needState(calls.reason[call] != NONE && isInOpenEvent(call));
        needRoom(events.size < EVENTS);
        int event = events.begin(calls.kind[call], call);
        calls.moveBranch(call, event);
        calls.reason[call] = NONE;
        calls.how[call] = FIRST;
        return event;
    }

    public int merge(int event, int call) throws IllegalArgumentException, IllegalStateException {
        needKnown(isBelow(event, events.size) && isBelow(call, calls.size));
        int target = calls.event[call];
        needState(events.state[event] == OPEN && events.state[target] == OPEN && event != target);
        int first = events.first[event];
        calls.reason[first] = call;
        calls.how[first] = MERGING;
        calls.moveAll(event, target);
        events.state[event] = MERGED;
        events.first[event] = NONE;
        return calls.countIn(target);
    }

    public void watch(int event, int road, int a, int b)
            throws IllegalArgumentException, IndexOutOfBoundsException, IllegalStateException {
        needKnown(isBelow(event, events.size) && isBelow(road, ROADS));
        needRange(isBelow(a, roads.size[road]) && isBelow(b, roads.size[road]) && a != b);
        needState(events.state[event] == OPEN);
        events.road[event] = road;
        events.from[event] = Math.min(a, b);
        events.to[event] = Math.max(a, b);
    }

    public void state(int event, int s)
            throws IllegalArgumentException, IndexOutOfBoundsException, IllegalStateException {
        needKnown(isBelow(event, events.size));
        needRange(s >= OPEN && s <= CLOSED);
        needState(events.state[event] != s && events.state[event] != MERGED);
        events.state[event] = s;
    }

    public int share(int a, int b) throws IllegalArgumentException, ArithmeticException {
        needTwoCalls(a, b);
        int kind = calls.kind[Math.max(a, b)];
        int either = rules.weigh(kind, calls.words[a] | calls.words[b]);
        if (either == 0) {
            throw new ArithmeticException("there is no share");
        }
        return 1_000 * rules.weigh(kind, calls.words[a] & calls.words[b]) / either;
    }

    public int agree(int a, int b) throws IllegalArgumentException {
        needTwoCalls(a, b);
        return agreement(Math.min(a, b), Math.max(a, b));
    }

    public int callAt(int call, int what) throws IllegalArgumentException {
        needKnown(isBelow(call, calls.size) && isBelow(what, 5));
        switch (what) {
            case 0:
                return calls.event[call];
            case 1:
                return calls.reason[call];
            case 2:
                return calls.marks[call];
            case 3:
                return calls.kind[call];
            default:
                return calls.how[call];
        }
    }

    public int eventAt(int event, int what) throws IllegalArgumentException {
        needKnown(isBelow(event, events.size) && isBelow(what, 7));
        switch (what) {
            case 0:
                return events.state[event];
            case 1:
                return calls.countIn(event);
            case 2:
                return events.kind[event];
            case 3:
                return calls.weighEvent(event);
            case 4:
                return calls.pointOf(event);
            case 5:
                return events.first[event];
            default:
                return calls.latestTimeOf(event);
        }
    }

    public int member(int event, int i) throws IllegalArgumentException, IndexOutOfBoundsException {
        needKnown(isBelow(event, events.size));
        int call = calls.memberOf(event, i);
        needRange(call != NONE);
        return call;
    }

    public int count(int what) throws IllegalArgumentException {
        needKnown(isBelow(what, 4));
        switch (what) {
            case 0:
                return calls.size;
            case 1:
                return events.size;
            case 2:
                return events.countOpen();
            default:
                return calls.countHoaxes();
        }
    }

    private static boolean isBelow(int number, int bound) {
        return number >= 0 && number < bound;
    }

    private static void needKnown(boolean known) {
        if (!known) {
            throw new IllegalArgumentException("an unknown number");
        }
    }

    private static void needRange(boolean inside) {
        if (!inside) {
            throw new IndexOutOfBoundsException("a number outside its range");
        }
    }

    private static void needState(boolean right) {
        if (!right) {
            throw new IllegalStateException("not in this state");
        }
    }

    private static void needRoom(boolean room) {
        if (!room) {
            throw new UnsupportedOperationException("no room");
        }
    }

    private void needCallData(int line, int kind, int point, int road, int t) {
        needKnown(isBelow(kind, KINDS));
        needKnown(road == NONE || isBelow(road, ROADS));
        needRange(isBelow(line, LINES));
        needRange(point == NONE || isBelow(point, POINTS));
        needRange(t >= calls.latestTime());
    }

    private void needTwoCalls(int a, int b) {
        needKnown(isBelow(a, calls.size) && isBelow(b, calls.size) && a != b);
    }

    private boolean isInOpenEvent(int call) {
        return events.state[calls.event[call]] == OPEN;
    }

    private boolean canBeReason(int call) {
        return !calls.isHoax(call) && isInOpenEvent(call);
    }

    /** Leaves the reason and the way of joining in the draft's own row. */
    private void seekReason(int draft) {
        if (takeReason(draft, latestOfLine(draft), AGAIN)) {
            return;
        }
        if (takeReason(draft, firstOnStretch(draft), STRETCH)) {
            return;
        }
        if (takeReason(draft, nearestByPlace(draft), PLACE)) {
            return;
        }
        takeReason(draft, greatestShare(draft), WORDING);
    }

    private boolean takeReason(int draft, int reason, int how) {
        if (reason == NONE) {
            return false;
        }
        calls.reason[draft] = reason;
        calls.how[draft] = how;
        return true;
    }

    private int latestOfLine(int draft) {
        for (int call = calls.size - 1; call >= 0; call--) {
            if (calls.line[call] == calls.line[draft] && canBeReason(call)) {
                return isWithinSpan(call, draft) ? call : NONE;
            }
        }
        return NONE;
    }

    private int firstOnStretch(int draft) {
        for (int event = 0; event < events.size; event++) {
            if (events.isWatchedFor(event, calls.kind[draft]) && isOnStretch(draft, event)) {
                return events.first[event];
            }
        }
        return NONE;
    }

    private boolean isOnStretch(int draft, int event) {
        int road = events.road[event];
        int point = calls.point[draft];
        if (point == NONE) {
            return calls.road[draft] == road;
        }
        return roads.isNear(road, events.from[event], events.to[event], point);
    }

    private int nearestByPlace(int draft) {
        int nearest = NONE;
        long least = 0;
        for (int call = 0; call < calls.size; call++) {
            if (isCandidate(call, draft) && agreement(call, draft) == AGREE_BY_PLACE) {
                long square = squareBetween(calls.point[call], calls.point[draft]);
                if (nearest == NONE || square < least) {
                    nearest = call;
                    least = square;
                }
            }
        }
        return nearest;
    }

    private int greatestShare(int draft) {
        int kind = calls.kind[draft];
        int greatest = NONE;
        int bestBoth = 0;
        int bestEither = 1;
        for (int call = 0; call < calls.size; call++) {
            if (isCandidate(call, draft) && agreement(call, draft) == AGREE_BY_WORDS) {
                int both = rules.weigh(kind, calls.words[call] & calls.words[draft]);
                int either = rules.weigh(kind, calls.words[call] | calls.words[draft]);
                // Crosswise, for shares that differ by less than a rounded number could tell.
                if (greatest == NONE || both * bestEither > bestBoth * either) {
                    greatest = call;
                    bestBoth = both;
                    bestEither = either;
                }
            }
        }
        return greatest;
    }

    private boolean isCandidate(int call, int draft) {
        return calls.kind[call] == calls.kind[draft] && canBeReason(call);
    }

    private int agreement(int earlier, int later) {
        if (!isWithinSpan(earlier, later)) {
            return NO_AGREEMENT;
        }
        int kind = calls.kind[later];
        int either = rules.weigh(kind, calls.words[earlier] | calls.words[later]);
        int both = rules.weigh(kind, calls.words[earlier] & calls.words[later]);
        boolean hasShare = either > 0;
        boolean isEnough = hasShare && rules.meetsNeed(kind, both, either);
        if (calls.point[earlier] == NONE || calls.point[later] == NONE) {
            return isEnough ? AGREE_BY_WORDS : NO_AGREEMENT;
        }
        long square = squareBetween(calls.point[earlier], calls.point[later]);
        long most = (long) rules.distance[kind] * rules.distance[kind];
        boolean isNear = hasShare ? isEnough && square <= most : 4 * square <= most;
        return isNear ? AGREE_BY_PLACE : NO_AGREEMENT;
    }

    private boolean isWithinSpan(int earlier, int later) {
        return calls.time[later] - calls.time[earlier] <= rules.span[calls.kind[later]];
    }

    private static int eastOf(int point) {
        return point / SIDE;
    }

    private static int northOf(int point) {
        return point % SIDE;
    }

    private static long squareBetween(int a, int b) {
        long east = eastOf(a) - eastOf(b);
        long north = northOf(a) - northOf(b);
        return east * east + north * north;
    }

    /** What the kinds say: one place of each row a kind, but for the weights, which have a place a word. */
    private static final class Rules {
        final int[] distance;
        final int[] span;
        final int[] needOver;
        final int[] needUnder;
        final int[] weights;

        Rules() {
            distance = new int[KINDS];
            span = new int[KINDS];
            needOver = new int[KINDS];
            needUnder = new int[KINDS];
            weights = new int[KINDS * WORDS];
            Arrays.fill(distance, 200);
            Arrays.fill(span, 600);
            Arrays.fill(needOver, 1);
            Arrays.fill(needUnder, 2);
            Arrays.fill(weights, 1);
        }

        int weigh(int kind, int words) {
            int sum = 0;
            int rest = words;
            for (int word = 0; word < WORDS && rest != 0; word++) {
                if ((rest & 1) == 1) {
                    sum += weights[kind * WORDS + word];
                }
                rest >>>= 1;
            }
            return sum;
        }

        boolean meetsNeed(int kind, int both, int either) {
            return both * needUnder[kind] >= needOver[kind] * either;
        }
    }

    /** The points of all roads in one row, each road with its own part of it. */
    private static final class Roads {
        final int[] size;
        final int[] points;

        Roads() {
            size = new int[ROADS];
            points = new int[ROADS * ROAD_POINTS];
        }

        int append(int road, int point) {
            points[road * ROAD_POINTS + size[road]] = point;
            size[road]++;
            return size[road];
        }

        boolean isNear(int road, int from, int to, int point) {
            int start = road * ROAD_POINTS;
            for (int i = from; i < to; i++) {
                if (isNearPiece(points[start + i], points[start + i + 1], point)) {
                    return true;
                }
            }
            return false;
        }

        /** In whole numbers, so that a point at just 50 metres is never lost to rounding. */
        private static boolean isNearPiece(int from, int to, int point) {
            long pieceEast = eastOf(to) - eastOf(from);
            long pieceNorth = northOf(to) - northOf(from);
            long east = eastOf(point) - eastOf(from);
            long north = northOf(point) - northOf(from);
            long along = east * pieceEast + north * pieceNorth;
            long lengthSquare = pieceEast * pieceEast + pieceNorth * pieceNorth;
            if (along <= 0) {
                return squareBetween(from, point) <= REACH_SQUARE;
            }
            if (along >= lengthSquare) {
                return squareBetween(to, point) <= REACH_SQUARE;
            }
            long across = east * pieceNorth - north * pieceEast;
            return across * across <= REACH_SQUARE * lengthSquare;
        }
    }

    /** The calls' rows, with one place more than calls, so that a draft has one when there is no room. */
    private static final class Calls {
        int size;
        final int[] line;
        final int[] kind;
        final int[] point;
        final int[] words;
        final int[] road;
        final int[] time;
        final int[] event;
        final int[] reason;
        final int[] how;
        final int[] marks;

        Calls() {
            size = 0;
            line = new int[CALLS + 1];
            kind = new int[CALLS + 1];
            point = new int[CALLS + 1];
            words = new int[CALLS + 1];
            road = new int[CALLS + 1];
            time = new int[CALLS + 1];
            event = new int[CALLS + 1];
            reason = new int[CALLS + 1];
            how = new int[CALLS + 1];
            marks = new int[CALLS + 1];
        }

        /** Fills the place behind the last call; no call is there before the size grows. */
        int draft(int itsLine, int itsKind, int itsPoint, int itsWords, int itsRoad, int itsTime) {
            line[size] = itsLine;
            kind[size] = itsKind;
            point[size] = itsPoint;
            words[size] = itsWords;
            road[size] = itsRoad;
            time[size] = itsTime;
            reason[size] = NONE;
            how[size] = FIRST;
            marks[size] = 0;
            return size;
        }

        int latestTime() {
            return size == 0 ? 0 : time[size - 1];
        }

        boolean isHoax(int call) {
            return (marks[call] & HOAX) != 0;
        }

        void moveBranch(int top, int toEvent) {
            for (int call = 0; call < size; call++) {
                if (isUnder(call, top)) {
                    event[call] = toEvent;
                }
            }
        }

        private boolean isUnder(int call, int top) {
            int at = call;
            for (int step = 0; step < CALLS && at != NONE; step++) {
                if (at == top) {
                    return true;
                }
                at = reason[at];
            }
            return false;
        }

        void moveAll(int fromEvent, int toEvent) {
            for (int call = 0; call < size; call++) {
                if (event[call] == fromEvent) {
                    event[call] = toEvent;
                }
            }
        }

        int countIn(int ofEvent) {
            int count = 0;
            for (int call = 0; call < size; call++) {
                if (event[call] == ofEvent) {
                    count++;
                }
            }
            return count;
        }

        int memberOf(int ofEvent, int place) {
            int before = 0;
            for (int call = 0; call < size; call++) {
                if (event[call] == ofEvent) {
                    if (before == place) {
                        return call;
                    }
                    before++;
                }
            }
            return NONE;
        }

        int weighEvent(int ofEvent) {
            int sum = 0;
            for (int call = 0; call < size; call++) {
                if (event[call] == ofEvent && !isHoax(call)) {
                    sum += weighCall(call);
                }
            }
            return sum;
        }

        private int weighCall(int call) {
            int sum = 4;
            if ((marks[call] & SILENT) != 0) {
                sum -= 2;
            }
            if (point[call] != NONE) {
                sum += 1;
            }
            return sum;
        }

        int pointOf(int ofEvent) {
            for (int call = 0; call < size; call++) {
                if (event[call] == ofEvent && !isHoax(call) && point[call] != NONE) {
                    return point[call];
                }
            }
            return NONE;
        }

        int latestTimeOf(int ofEvent) {
            for (int call = size - 1; call >= 0; call--) {
                if (event[call] == ofEvent) {
                    return time[call];
                }
            }
            return NONE;
        }

        int countHoaxes() {
            int count = 0;
            for (int call = 0; call < size; call++) {
                if (isHoax(call)) {
                    count++;
                }
            }
            return count;
        }
    }

    /** The events' rows; an open event always has a first call, and a merged one none. */
    private static final class Events {
        int size;
        final int[] state;
        final int[] kind;
        final int[] first;
        final int[] road;
        final int[] from;
        final int[] to;

        Events() {
            size = 0;
            state = new int[EVENTS];
            kind = new int[EVENTS];
            first = new int[EVENTS];
            road = new int[EVENTS];
            from = new int[EVENTS];
            to = new int[EVENTS];
        }

        int begin(int itsKind, int firstCall) {
            state[size] = OPEN;
            kind[size] = itsKind;
            first[size] = firstCall;
            road[size] = NONE;
            size++;
            return size - 1;
        }

        boolean isWatchedFor(int event, int ofKind) {
            return state[event] == OPEN && kind[event] == ofKind && road[event] != NONE;
        }

        int countOpen() {
            int count = 0;
            for (int event = 0; event < size; event++) {
                if (state[event] == OPEN) {
                    count++;
                }
            }
            return count;
        }
    }
}

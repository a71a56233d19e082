import java.util.ArrayList;
import java.util.List;

/**
 * All that can be seen of an object. It is looked at in parts, each of them at an object made anew,
 * because an object answers for 512 calls and no more.
 */
final class Sight {
    interface Maker {
        CallJoin make();
    }

    interface Change {
        void to(CallJoin x);
    }

    interface NumberedChange {
        void to(CallJoin x, int number);
    }

    private static final String[] PARTS = {
        "events of calls", "reasons", "marks", "kinds of calls", "ways of joining",
        "states", "sizes", "kinds of events", "weights", "points", "first calls", "latest times",
        "counts", "members", "shares", "agreements", "roads", "watched roads", "places", "lines", "time", "calls to come"};

    private Sight() {
    }

    /** A call is refused, and leaves an object that looks like one that never had it. */
    static void refused(String what, String exception, Maker maker, Change refused) {
        Due.refuses(what, exception, () -> refused.to(maker.make()));
        unchanged(what, maker, refused);
    }

    /** The same for several values of one argument. */
    static void refusedFor(String what, String exception, Maker maker, NumberedChange refused, int... values) {
        for (int value : values) {
            refused(what + " " + value, exception, maker, x -> refused.to(x, value));
        }
    }

    /** What a call answers is looked at elsewhere; here, that it leaves no trace. */
    static void unchanged(String what, Maker maker, Change change) {
        for (int part = 0; part < PARTS.length; part++) {
            CallJoin without = maker.make();
            CallJoin with = maker.make();
            Due.answer(() -> {
                change.to(with);
                return 0;
            });
            Due.same(what + " leaves " + PARTS[part] + " as they were", look(part, without), look(part, with));
        }
    }

    private static String look(int part, CallJoin x) {
        List<String> seen = new ArrayList<>();
        if (part < 5) {
            lookAtCalls(x, part, seen);
        } else if (part < 12) {
            lookAtEvents(x, part - 5, seen);
        } else {
            lookAtRest(x, PARTS[part], seen);
        }
        return seen.toString();
    }

    private static void lookAtCalls(CallJoin x, int what, List<String> seen) {
        int calls = x.count(0);
        for (int call = 0; call < calls; call++) {
            int c = call;
            seen.add(Due.answer(() -> x.callAt(c, what)));
        }
    }

    private static void lookAtEvents(CallJoin x, int what, List<String> seen) {
        int events = x.count(1);
        for (int event = 0; event < events; event++) {
            int e = event;
            seen.add(Due.answer(() -> x.eventAt(e, what)));
        }
    }

    private static void lookAtRest(CallJoin x, String part, List<String> seen) {
        switch (part) {
            case "counts" -> lookAtCounts(x, seen);
            case "members" -> lookAtMembers(x, seen);
            case "shares" -> lookAtNeighbours(x, true, seen);
            case "agreements" -> lookAtNeighbours(x, false, seen);
            case "roads" -> lookAtRoads(x, seen);
            case "watched roads" -> lookAtWatchedRoads(x, seen);
            case "places" -> lookAtPlaces(x, seen);
            case "lines" -> lookAtLines(x, seen);
            case "time" -> lookAtTime(x, seen);
            default -> lookAtCallsToCome(x, seen);
        }
    }

    private static void lookAtCounts(CallJoin x, List<String> seen) {
        for (int what = 0; what < 4; what++) {
            int w = what;
            seen.add(Due.answer(() -> x.count(w)));
        }
    }

    private static void lookAtMembers(CallJoin x, List<String> seen) {
        int events = x.count(1);
        for (int event = 0; event < events; event++) {
            String member = "";
            for (int i = 0; i < 120 && !member.equals(Due.RANGE); i++) {
                int e = event;
                int n = i;
                member = Due.answer(() -> x.member(e, n));
                seen.add(member);
            }
        }
    }

    private static void lookAtNeighbours(CallJoin x, boolean share, List<String> seen) {
        int calls = x.count(0);
        for (int call = 1; call < calls; call++) {
            int c = call;
            seen.add(Due.answer(() -> share ? x.share(c - 1, c) : x.agree(c - 1, c)));
        }
    }

    /** A road is seen only by making it longer. */
    private static void lookAtRoads(CallJoin x, List<String> seen) {
        for (int road = 0; road < 8; road++) {
            int r = road;
            seen.add(Due.answer(() -> x.point(r, 0)));
        }
    }

    private static void lookAtWatchedRoads(CallJoin x, List<String> seen) {
        int time = latestTime(x);
        for (int kind = 0; kind < 8; kind++) {
            for (int road = 0; road < 8; road++) {
                int k = kind;
                int r = road;
                seen.add(Due.answer(() -> x.reasonFor(999, k, -1, 0, r, time)));
            }
        }
    }

    private static void lookAtPlaces(CallJoin x, List<String> seen) {
        int time = latestTime(x);
        for (int east = 0; east < 10; east++) {
            for (int north = 0; north < 10; north++) {
                int point = Due.at(1000 * east, 1000 * north);
                seen.add(Due.answer(() -> x.reasonFor(999, 0, point, 1, -1, time)));
            }
        }
    }

    private static void lookAtLines(CallJoin x, List<String> seen) {
        int time = latestTime(x);
        for (int line = 0; line < 121; line++) {
            int l = line;
            seen.add(Due.answer(() -> x.reasonFor(l, 0, -1, 0, -1, time)));
        }
    }

    private static void lookAtTime(CallJoin x, List<String> seen) {
        int time = latestTime(x);
        seen.add(Due.answer(() -> x.reasonFor(999, 0, -1, 0, -1, time)));
        seen.add(Due.answer(() -> x.reasonFor(999, 0, -1, 0, -1, time - 1)));
    }

    /** What a call left behind where the next ones come to stand would be seen only in them. */
    private static void lookAtCallsToCome(CallJoin x, List<String> seen) {
        int time = latestTime(x);
        for (int line : new int[] {998, 0, 10}) {
            String call = Due.answer(() -> x.call(line, 6, -1, 0, -1, time));
            seen.add(call);
            for (int what = 0; what < 5 && Character.isDigit(call.charAt(0)); what++) {
                int w = what;
                seen.add(Due.answer(() -> x.callAt(Integer.parseInt(call), w)));
            }
        }
    }

    private static int latestTime(CallJoin x) {
        int events = x.count(1);
        int latest = 0;
        for (int event = 0; event < events; event++) {
            latest = Math.max(latest, x.eventAt(event, 6));
        }
        return latest;
    }
}

import java.util.ArrayList;
import java.util.List;

/** What the document says of a new call, sentence by sentence; call and reasonFor both have to keep to it. */
final class NewCalls {
    private static final int MAX = Integer.MAX_VALUE;

    private final List<NewCall> cases = new ArrayList<>();
    private String sentence;
    private Sight.Maker before;

    static List<NewCall> all() {
        NewCalls made = new NewCalls();
        made.firstOfANewEvent();
        made.againWithinTheSpan();
        made.againByTheNewCallsKind();
        made.againTheLatest();
        made.againNoHoax();
        made.againInAnOpenEvent();
        made.againAtTheEndOfTime();
        made.stretchWithinFiftyMetres();
        made.stretchAtItsEnds();
        made.stretchSlanted();
        made.stretchAcrossTheField();
        made.stretchOfNoLength();
        made.stretchOfOneMetre();
        made.stretchFromOnePointToAnother();
        made.stretchByItsRoad();
        made.stretchOfItsKind();
        made.stretchTheLowestOpenEvent();
        made.stretchTheFirstCall();
        made.placeWithinTheDistance();
        made.placeAtTheEdgesOfTheDistance();
        made.placeWithinTheSpan();
        made.placeByTheNeed();
        made.placeWithoutAShare();
        made.placeTheNearest();
        made.placeOfItsKind();
        made.placeNoHoaxAndOpen();
        made.wordsWhenOneHasNoPoint();
        made.wordsWithinTheSpan();
        made.wordsByTheNeed();
        made.wordsOnlyWithAShare();
        made.wordsTheGreatestShare();
        made.wordsCloseShares();
        made.wordsOfItsKind();
        made.wordsNoHoaxAndOpen();
        made.theFirstOfTheseReasons();
        return made.cases;
    }

    private void of(String itsSentence, Sight.Maker maker) {
        sentence = itsSentence;
        before = maker;
    }

    private void due(String name, int reason, int how, int line, int kind, int point, int words, int road, int t) {
        cases.add(new NewCall(sentence + ", " + name, before, NewCall.told(line, kind, point, words, road, t), reason, how));
    }

    private void again(String name, int reason, int line, int kind, int t) {
        due(name, reason, reason < 0 ? NewCall.FIRST : NewCall.AGAIN, line, kind, -1, 0, -1, t);
    }

    private void onStretch(int reason, int x, int y) {
        int how = reason < 0 ? NewCall.FIRST : NewCall.STRETCH;
        due(x + "|" + y, reason, how, 50, 0, Due.at(x, y), 0, -1, 900_000);
    }

    private void byPlace(String name, int reason, int x, int y, int words, int t) {
        due(name, reason, reason < 0 ? NewCall.FIRST : NewCall.PLACE, 50, 0, Due.at(x, y), words, -1, t);
    }

    private void byWords(String name, int reason, int words, int t) {
        due(name, reason, reason < 0 ? NewCall.FIRST : NewCall.WORDS, 50, 0, -1, words, -1, t);
    }

    private void firstOfANewEvent() {
        of("no call at all", CallJoin::new);
        due("the least of everything", -1, NewCall.FIRST, 0, 0, -1, 0, -1, 0);
        due("the greatest of everything", -1, NewCall.FIRST, 999, 7, 99_999_999, -1, 7, MAX);
        of("calls that are all too far", () -> {
            CallJoin x = Sample.alone(8);
            x.call(20, 0, 0, 1, 3, 20);
            return x;
        });
        due("of another kind, place, line and with other words", -1, NewCall.FIRST, 21, 0, Due.at(9000, 0), 2, 3, 20);
    }

    private void againWithinTheSpan() {
        of("again, span 600", () -> oneOfLine(999, 600));
        again("just met", 0, 999, 0, 700);
        again("just missed", -1, 999, 0, 701);
        again("in the same second", 0, 999, 0, 100);
        again("another line", -1, 998, 0, 100);
        again("the least line", -1, 0, 0, 100);
        of("again, line 0", () -> oneOfLine(0, 600));
        again("the same", 0, 0, 0, 100);
        again("another one", -1, 1, 0, 100);
        of("again, span 0", () -> oneOfLine(7, 0));
        again("just met", 0, 7, 0, 100);
        again("just missed", -1, 7, 0, 101);
        of("again, span 100,000", () -> oneOfLine(7, 100_000));
        again("just met", 0, 7, 0, 100_100);
        again("just missed", -1, 7, 0, 100_101);
        of("again, a call with a point, a road and words", () -> oneOfLine(7, 600));
        due("at another place", 0, NewCall.AGAIN, 7, 0, Due.at(9999, 9999), -1, 5, 700);
    }

    private static CallJoin oneOfLine(int line, int span) {
        CallJoin x = new CallJoin();
        x.rule(0, 200, span, 1, 2);
        x.call(line, 0, -1, 0, -1, 100);
        return x;
    }

    private void againByTheNewCallsKind() {
        of("again, the earlier of kind 1 with span 10, the later of kind 2 with span 20", () -> {
            CallJoin x = new CallJoin();
            x.rule(1, 200, 10, 1, 2);
            x.rule(2, 200, 20, 1, 2);
            x.call(7, 1, -1, 0, -1, 100);
            return x;
        });
        again("just met", 0, 7, 2, 120);
        again("just missed", -1, 7, 2, 121);
        again("kind 1 just met", 0, 7, 1, 110);
        again("kind 1 just missed", -1, 7, 1, 111);
    }

    private void againTheLatest() {
        of("again, three of a line, two of them in the same second", () -> {
            CallJoin x = new CallJoin();
            x.call(7, 0, -1, 0, -1, 100);
            x.call(7, 0, -1, 0, -1, 200);
            x.call(7, 0, -1, 0, -1, 200);
            x.call(8, 0, -1, 0, -1, 300);
            return x;
        });
        again("the latest", 2, 7, 0, 300);
        again("the latest of all when it is that line's", 3, 8, 0, 300);
        of("again, the latest is in an event of its own", () -> {
            CallJoin x = Sample.chain(3);
            x.split(2);
            return x;
        });
        again("the latest", 2, 1, 0, 2);
    }

    private void againNoHoax() {
        for (int marks = 0; marks < 8; marks++) {
            int m = marks;
            of("again, the latest has marks " + marks, () -> {
                CallJoin x = Sample.chain(2);
                x.mark(1, m);
                return x;
            });
            again("or the one before", marks < 4 ? 1 : 0, 1, 0, 600);
            again("the one before too long ago", marks < 4 ? 1 : -1, 1, 0, 601);
        }
        of("again, all of the line are hoaxes", () -> {
            CallJoin x = Sample.chain(2);
            x.mark(0, 4);
            x.mark(1, 4);
            return x;
        });
        again("none", -1, 1, 0, 2);
    }

    private void againInAnOpenEvent() {
        for (int state = 0; state < 3; state++) {
            int s = state;
            of("again, the latest is in an event with state " + state, () -> {
                CallJoin x = Sample.chain(2);
                x.split(1);
                if (s > 0) {
                    x.state(1, s);
                }
                return x;
            });
            again("or the one before", state == 0 ? 1 : 0, 1, 0, 600);
            again("the one before too long ago", state == 0 ? 1 : -1, 1, 0, 601);
        }
        of("again, the latest is in an event that is open again", () -> {
            CallJoin x = Sample.chain(1);
            x.state(0, 2);
            x.state(0, 0);
            return x;
        });
        again("the latest", 0, 1, 0, 600);
        of("again, the latest was merged into an open event", () -> {
            CallJoin x = Sample.alone(3);
            x.merge(2, 0);
            return x;
        });
        again("the latest", 2, 2, 0, 2);
        of("again, the latest was merged into an event that is closed now", () -> {
            CallJoin x = Sample.alone(3);
            x.merge(2, 0);
            x.state(0, 2);
            return x;
        });
        again("none", -1, 2, 0, 2);
    }

    private void againAtTheEndOfTime() {
        of("again, at the first second", () -> Sample.chain(1));
        again("from the first to the last second there is", -1, 1, 0, MAX);
        of("again, 100,000 seconds before the last there is", () -> {
            CallJoin x = new CallJoin();
            x.rule(0, 200, 100_000, 1, 2);
            x.call(1, 0, -1, 0, -1, MAX - 100_000);
            return x;
        });
        again("just met", 0, 1, 0, MAX);
        of("again, one second more before the last there is", () -> {
            CallJoin x = new CallJoin();
            x.rule(0, 200, 100_000, 1, 2);
            x.call(1, 0, -1, 0, -1, MAX - 100_001);
            return x;
        });
        again("just missed", -1, 1, 0, MAX);
    }

    /** The road 3 through the points, watched from the first to the last by event 0, of kind 0. */
    private static CallJoin watched(int... points) {
        CallJoin x = new CallJoin();
        for (int point : points) {
            x.point(3, point);
        }
        x.call(1, 0, -1, 0, -1, 0);
        x.watch(0, 3, 0, points.length - 1);
        return x;
    }

    private void stretchWithinFiftyMetres() {
        of("stretch with a corner", () -> watched(Due.at(100, 1000), Due.at(600, 1000), Due.at(600, 3000)));
        onStretch(0, 100, 1000);
        onStretch(0, 300, 1050);
        onStretch(-1, 300, 1051);
        onStretch(0, 300, 950);
        onStretch(-1, 300, 949);
        onStretch(0, 550, 2000);
        onStretch(-1, 549, 2000);
        onStretch(0, 650, 2999);
        onStretch(-1, 651, 2999);
        onStretch(0, 640, 970);
        onStretch(-1, 640, 969);
        onStretch(0, 101, 1050);
        onStretch(-1, 101, 1051);
    }

    private void stretchAtItsEnds() {
        of("the ends of a stretch", () -> watched(Due.at(100, 1000), Due.at(600, 1000), Due.at(600, 3000)));
        onStretch(0, 50, 1000);
        onStretch(-1, 49, 1000);
        onStretch(0, 70, 1040);
        onStretch(-1, 69, 1040);
        onStretch(0, 60, 970);
        onStretch(-1, 60, 969);
        onStretch(0, 600, 3050);
        onStretch(-1, 600, 3051);
        onStretch(0, 630, 3040);
        onStretch(-1, 631, 3040);
    }

    /** Its direction is 3 to 4, so that 40 and 30 across are just 50. */
    private void stretchSlanted() {
        of("a slanted stretch", () -> watched(Due.at(1000, 1000), Due.at(4000, 5000)));
        onStretch(0, 2500 - 40, 3000 + 30);
        onStretch(-1, 2500 - 41, 3000 + 30);
        onStretch(-1, 2500 - 40, 3000 + 31);
        onStretch(0, 2500 + 40, 3000 - 30);
        onStretch(-1, 2500 + 41, 3000 - 30);
        onStretch(-1, 2500 + 40, 3000 - 31);
        onStretch(0, 970, 960);
        onStretch(-1, 970, 959);
        onStretch(0, 4030, 5040);
        onStretch(-1, 4030, 5041);
        of("a slanted stretch that goes back", () -> watched(Due.at(4000, 5000), Due.at(1000, 1000)));
        onStretch(0, 2500 - 40, 3000 + 30);
        onStretch(-1, 2500 - 41, 3000 + 30);
        of("a stretch that is slanted the other way", () -> watched(Due.at(1000, 5000), Due.at(5000, 2000)));
        onStretch(0, 3000 + 30, 3500 + 40);
        onStretch(-1, 3000 + 30, 3500 + 41);
        onStretch(0, 3000 - 30, 3500 - 40);
        onStretch(-1, 3000 - 31, 3500 - 40);
    }

    private void stretchAcrossTheField() {
        of("a stretch from corner to corner", () -> watched(Due.at(9999, 9999), Due.at(0, 0)));
        onStretch(0, 5035, 4965);
        onStretch(-1, 5036, 4965);
        onStretch(-1, 0, 9999);
        onStretch(-1, 9999, 0);
        of("a stretch between the other corners", () -> watched(Due.at(0, 9999), Due.at(9999, 0)));
        onStretch(0, 4964, 4965);
        onStretch(-1, 4964, 4964);
        onStretch(-1, 0, 0);
        onStretch(-1, 9999, 9999);
    }

    private void stretchOfNoLength() {
        of("a stretch between two points at one place", () -> watched(Due.at(1000, 1000), Due.at(1000, 1000)));
        onStretch(0, 1030, 1040);
        onStretch(-1, 1030, 1041);
        onStretch(-1, 2000, 1000);
    }

    private void stretchOfOneMetre() {
        of("a stretch of one metre", () -> watched(Due.at(1000, 1000), Due.at(1001, 1000)));
        onStretch(0, 1000, 1050);
        onStretch(0, 1001, 1050);
        onStretch(-1, 1002, 1050);
        onStretch(-1, 999, 1050);
        onStretch(0, 950, 1000);
        onStretch(-1, 949, 1000);
        onStretch(0, 1051, 1000);
        onStretch(-1, 1052, 1000);
    }

    private void stretchFromOnePointToAnother() {
        int[] road = {0, Due.at(1000, 0), Due.at(2000, 0), Due.at(3000, 0)};
        for (boolean back : new boolean[] {false, true}) {
            of("a part of a road" + (back ? ", told backwards" : ""), () -> {
                CallJoin x = watched(road);
                x.watch(0, 3, back ? 2 : 1, back ? 1 : 2);
                return x;
            });
            onStretch(0, 950, 0);
            onStretch(-1, 949, 0);
            onStretch(0, 1500, 50);
            onStretch(0, 2050, 0);
            onStretch(-1, 2051, 0);
        }
        of("all of a road, told backwards", () -> {
            CallJoin x = watched(road);
            x.watch(0, 3, 3, 0);
            return x;
        });
        onStretch(0, 0, 0);
        onStretch(0, 1500, 50);
        onStretch(0, 3050, 0);
        onStretch(-1, 3051, 0);
        of("a road that is longer now than the stretch", () -> {
            CallJoin x = watched(road);
            x.point(3, Due.at(3000, 3000));
            return x;
        });
        onStretch(0, 3000, 50);
        onStretch(-1, 3000, 51);
    }

    private void stretchByItsRoad() {
        for (int road : new int[] {0, 3, 7}) {
            of("the road " + road + " is watched", () -> {
                CallJoin x = new CallJoin();
                x.point(road, 0);
                x.point(road, Due.at(1000, 0));
                x.call(1, 0, -1, 0, -1, 0);
                x.watch(0, road, 0, 1);
                return x;
            });
            for (int other = -1; other < 8; other++) {
                boolean same = other == road;
                due("no point, road " + other, same ? 0 : -1, same ? NewCall.STRETCH : NewCall.FIRST, 50, 0, -1, 0, other, 900_000);
            }
            due("a point elsewhere on its road", -1, NewCall.FIRST, 50, 0, Due.at(9000, 0), 0, road, 0);
            due("a point on it, of another road", 0, NewCall.STRETCH, 50, 0, Due.at(500, 0), 0, 5, 0);
        }
        of("no road is watched", () -> Sample.alone(1));
        due("no point, no road", -1, NewCall.FIRST, 50, 0, -1, 0, -1, 0);
        due("no point, road 0", -1, NewCall.FIRST, 50, 0, -1, 0, 0, 0);
        due("point 0, road 0", -1, NewCall.FIRST, 50, 0, 0, 0, 0, 0);
    }

    private void stretchOfItsKind() {
        of("an event of kind 0 with a call of kind 1 is watched", () -> {
            CallJoin x = watched(0, Due.at(1000, 0));
            x.call(1, 1, -1, 0, -1, 0);
            return x;
        });
        due("kind 0", 0, NewCall.STRETCH, 50, 0, 0, 0, -1, 0);
        due("kind 1", -1, NewCall.FIRST, 50, 1, 0, 0, -1, 0);
        due("kind 1 by its road", -1, NewCall.FIRST, 50, 1, -1, 0, 3, 0);
        due("kind 0 by its road", 0, NewCall.STRETCH, 50, 0, -1, 0, 3, 0);
    }

    /** Events 0, 1 and 2, of kind 0, all watch the road 3. */
    private static CallJoin threeWatched() {
        CallJoin x = watched(0, Due.at(1000, 0));
        for (int line = 2; line < 4; line++) {
            x.call(line, 0, -1, 0, -1, 0);
            x.watch(line - 1, 3, 0, 1);
        }
        return x;
    }

    private void stretchTheLowestOpenEvent() {
        of("three events watch a road", NewCalls::threeWatched);
        due("the lowest", 0, NewCall.STRETCH, 50, 0, 0, 0, -1, 0);
        due("the lowest by its road", 0, NewCall.STRETCH, 50, 0, -1, 0, 3, 0);
        for (int state = 1; state < 3; state++) {
            int s = state;
            of("three events watch a road, the lowest has state " + state, () -> {
                CallJoin x = threeWatched();
                x.state(0, s);
                return x;
            });
            due("the second", 1, NewCall.STRETCH, 50, 0, 0, 0, -1, 0);
            due("the second by its road", 1, NewCall.STRETCH, 50, 0, -1, 0, 3, 0);
        }
        of("three events watch a road, the lowest is merged", () -> {
            CallJoin x = threeWatched();
            x.merge(0, 2);
            return x;
        });
        due("the second", 1, NewCall.STRETCH, 50, 0, 0, 0, -1, 0);
        of("three events watched a road, none is open", () -> {
            CallJoin x = threeWatched();
            x.state(0, 1);
            x.state(1, 2);
            x.state(2, 2);
            return x;
        });
        due("none", -1, NewCall.FIRST, 50, 0, 0, 0, -1, 0);
        of("three events watch a road, the lowest is open again", () -> {
            CallJoin x = threeWatched();
            x.state(0, 1);
            x.state(0, 0);
            return x;
        });
        due("the lowest, with its stretch", 0, NewCall.STRETCH, 50, 0, 0, 0, -1, 0);
    }

    private void stretchTheFirstCall() {
        of("the first call of a watched event is not its lowest", () -> {
            CallJoin x = Sample.alone(9);
            x.point(3, 0);
            x.point(3, Due.at(1000, 0));
            x.merge(1, 8);
            x.watch(8, 3, 0, 1);
            return x;
        });
        due("the first call", 8, NewCall.STRETCH, 50, 0, 0, 0, -1, 8);
        of("the first call of a watched event is a hoax, long ago", () -> {
            CallJoin x = watched(0, Due.at(1000, 0));
            x.call(1, 0, -1, 0, -1, 1);
            x.mark(0, 4);
            return x;
        });
        due("the first call", 0, NewCall.STRETCH, 50, 0, 0, 0, -1, MAX);
        of("a watched event was split", () -> {
            CallJoin x = watched(0, Due.at(1000, 0));
            x.call(1, 0, -1, 0, -1, 1);
            x.split(1);
            x.state(0, 1);
            return x;
        });
        due("the new event has no stretch", -1, NewCall.FIRST, 50, 0, 0, 0, -1, 1);
        of("a watched event was merged into another one", () -> {
            CallJoin x = watched(0, Due.at(1000, 0));
            x.call(2, 0, -1, 0, -1, 1);
            x.merge(0, 1);
            return x;
        });
        due("that has no stretch by it", -1, NewCall.FIRST, 50, 0, 0, 0, -1, 1);
    }

    /** Calls at the points 1000|1000, with the words 7, and 5000|1000, with none, both of kind 0 at time 100. */
    private static CallJoin placed(int distance, int span, int p, int q) {
        CallJoin x = new CallJoin();
        x.rule(0, distance, span, p, q);
        x.call(1, 0, Due.at(1000, 1000), 7, -1, 100);
        x.call(2, 0, Due.at(5000, 1000), 0, -1, 100);
        return x;
    }

    private void placeWithinTheDistance() {
        of("place, distance 500", () -> placed(500, 60, 1, 3));
        byPlace("just met eastwards", 0, 1500, 1000, 7, 100);
        byPlace("just missed eastwards", -1, 1501, 1000, 7, 100);
        byPlace("just met westwards", 0, 500, 1000, 7, 100);
        byPlace("just missed westwards", -1, 499, 1000, 7, 100);
        byPlace("just met northwards", 0, 1000, 1500, 7, 100);
        byPlace("just missed northwards", -1, 1000, 1501, 7, 100);
        byPlace("just met slanted", 0, 1300, 1400, 7, 100);
        byPlace("just missed slanted", -1, 1300, 1401, 7, 100);
        byPlace("just missed slanted", -1, 1301, 1400, 7, 100);
        of("place, distance 0", () -> placed(0, 60, 1, 3));
        byPlace("just met", 0, 1000, 1000, 7, 100);
        byPlace("just missed", -1, 1000, 1001, 7, 100);
        byPlace("just missed", -1, 1001, 1000, 7, 100);
        byPlace("just met without a share", 1, 5000, 1000, 0, 100);
        byPlace("just missed without a share", -1, 5000, 1001, 0, 100);
    }

    private void placeAtTheEdgesOfTheDistance() {
        of("place, distance 14,141, a call in the corner", () -> cornered(14_141));
        byPlace("the way across just met", 0, 9999, 9999, 1, 0);
        of("place, distance 14,140, a call in the corner", () -> cornered(14_140));
        byPlace("the way across just missed", -1, 9999, 9999, 1, 0);
        byPlace("one metre less just met", 0, 9998, 9998, 1, 0);
    }

    private static CallJoin cornered(int distance) {
        CallJoin x = new CallJoin();
        x.rule(0, distance, 600, 1, 2);
        x.call(1, 0, 0, 1, -1, 0);
        return x;
    }

    private void placeWithinTheSpan() {
        of("place, span 60", () -> placed(500, 60, 1, 3));
        byPlace("just met", 0, 1000, 1000, 7, 160);
        byPlace("just missed", -1, 1000, 1000, 7, 161);
        byPlace("just met without a share", 1, 5000, 1000, 0, 160);
        byPlace("just missed without a share", -1, 5000, 1000, 0, 161);
        of("place, span 0", () -> placed(500, 0, 1, 3));
        byPlace("just met", 0, 1000, 1000, 7, 100);
        byPlace("just missed", -1, 1000, 1000, 7, 101);
    }

    private void placeByTheNeed() {
        of("place, need 1 / 3", () -> placed(500, 60, 1, 3));
        byPlace("1 of 3", 0, 1000, 1000, 1, 100);
        byPlace("1 of 4", -1, 1000, 1000, 9, 100);
        byPlace("0 of 3", -1, 1000, 1000, 0, 100);
        byPlace("0 of 4", -1, 1000, 1000, 8, 100);
        of("place, need 2 / 3", () -> placed(500, 60, 2, 3));
        byPlace("2 of 3", 0, 1000, 1000, 3, 100);
        byPlace("1 of 3", -1, 1000, 1000, 1, 100);
        of("place, need 0", () -> placed(500, 60, 0, 1));
        byPlace("0 of 3", 0, 1000, 1000, 0, 100);
        byPlace("0 of 4 at the distance", 0, 1500, 1000, 8, 100);
        byPlace("no share at half the distance", 1, 5250, 1000, 0, 100);
        byPlace("no share above half", -1, 5251, 1000, 0, 100);
        of("place, need 100", () -> placed(500, 60, 100, 1));
        byPlace("3 of 3", -1, 1000, 1000, 7, 100);
        byPlace("no share", 1, 5000, 1000, 0, 100);
        of("place, need 1 / 3, word 3 of weight 0", () -> {
            CallJoin x = placed(500, 60, 1, 3);
            x.weight(0, 3, 0);
            return x;
        });
        byPlace("1 of 3 that weigh", 0, 1000, 1000, 9, 100);
        byPlace("a word that does not weigh makes no share", 1, 5250, 1000, 8, 100);
        byPlace("and is above half of the distance", -1, 5251, 1000, 8, 100);
    }

    private void placeWithoutAShare() {
        of("place without a share, distance 500", () -> placed(500, 60, 1, 3));
        byPlace("half just met", 1, 5250, 1000, 0, 100);
        byPlace("half just missed", -1, 5251, 1000, 0, 100);
        byPlace("half just met slanted", 1, 5150, 1200, 0, 100);
        byPlace("half just missed slanted", -1, 5150, 1201, 0, 100);
        byPlace("a share of 0 is a share", -1, 5000, 1000, 1, 100);
        of("place without a share, distance 501", () -> placed(501, 60, 1, 3));
        byPlace("half just met", 1, 5250, 1000, 0, 100);
        byPlace("half just missed", -1, 5251, 1000, 0, 100);
        of("place without a share, distance 1", () -> placed(1, 60, 1, 3));
        byPlace("half just met", 1, 5000, 1000, 0, 100);
        byPlace("half just missed", -1, 5000, 1001, 0, 100);
        of("place without a share, distance 2", () -> placed(2, 60, 1, 3));
        byPlace("half just met", 1, 5000, 1001, 0, 100);
        byPlace("half just missed", -1, 5001, 1001, 0, 100);
    }

    /** Calls 0, 1 and 2, each in an event of its own, at 1000|1000, 1300|1000 and 1150|1260, with the same word. */
    private static CallJoin threePlaces() {
        CallJoin x = new CallJoin();
        x.call(1, 0, Due.at(1000, 1000), 1, -1, 0);
        x.call(2, 0, Due.at(1300, 1000), 1, -1, 0);
        x.call(3, 0, Due.at(1150, 1260), 1, -1, 0);
        return x;
    }

    private void placeTheNearest() {
        of("three places", NewCalls::threePlaces);
        byPlace("the nearest is the first", 0, 1149, 1000, 1, 0);
        byPlace("the nearest is the second", 1, 1151, 1000, 1, 0);
        byPlace("of the same distance the lowest", 0, 1150, 1000, 1, 0);
        byPlace("the nearest is the third", 2, 1150, 1120, 1, 0);
        byPlace("of the same distance the lowest of the last two", 1, 1251, 1145, 1, 0);
        byPlace("the second, a metre nearer", 1, 1251, 1144, 1, 0);
        byPlace("the third, a metre nearer", 2, 1251, 1146, 1, 0);
        of("two calls at one place", () -> {
            CallJoin x = new CallJoin();
            x.call(1, 0, Due.at(1000, 1000), 1, -1, 0);
            x.call(2, 0, Due.at(1000, 1000), 1, -1, 0);
            x.split(1);
            return x;
        });
        byPlace("the lowest", 0, 1100, 1000, 1, 0);
        of("two calls on two sides, the lower one later merged", () -> {
            CallJoin x = threePlaces();
            x.merge(0, 2);
            return x;
        });
        byPlace("of the same distance the lowest call, not event", 0, 1150, 1000, 1, 0);
        of("a nearer call with other words", () -> {
            CallJoin x = threePlaces();
            x.call(4, 0, Due.at(1100, 1000), 2, -1, 0);
            return x;
        });
        byPlace("the nearest that agrees", 0, 1100, 1000, 1, 0);
        byPlace("it is the nearest by its own words", 3, 1100, 1000, 2, 0);
    }

    private void placeOfItsKind() {
        of("a call of kind 5 in an event of kind 0", () -> {
            CallJoin x = threePlaces();
            x.call(1, 5, Due.at(1140, 1000), 1, -1, 0);
            return x;
        });
        byPlace("the nearest of kind 0", 0, 1140, 1000, 1, 0);
        due("the one of kind 5", 3, NewCall.PLACE, 50, 5, Due.at(1000, 1000), 1, -1, 0);
        due("none of kind 6", -1, NewCall.FIRST, 50, 6, Due.at(1000, 1000), 1, -1, 0);
    }

    private void placeNoHoaxAndOpen() {
        for (int marks = 0; marks < 8; marks++) {
            int m = marks;
            of("the nearest has marks " + marks, () -> {
                CallJoin x = threePlaces();
                x.mark(0, m);
                return x;
            });
            byPlace("or the next", marks < 4 ? 0 : 1, 1149, 1000, 1, 0);
        }
        for (int state = 1; state < 3; state++) {
            int s = state;
            of("the nearest is in an event with state " + state, () -> {
                CallJoin x = threePlaces();
                x.state(0, s);
                return x;
            });
            byPlace("the next", 1, 1149, 1000, 1, 0);
            byPlace("or none", -1, 820, 1000, 1, 0);
        }
    }

    /** Call 0 without a point, with the words 7; call 1 at 5000|5000, with the word 8; both of kind 0 at time 100. */
    private static CallJoin worded(int span, int p, int q) {
        CallJoin x = new CallJoin();
        x.rule(0, 100, span, p, q);
        x.call(1, 0, -1, 7, -1, 100);
        x.call(2, 0, Due.at(5000, 5000), 8, -1, 100);
        return x;
    }

    private void wordsWhenOneHasNoPoint() {
        of("words, need 1 / 3", () -> worded(60, 1, 3));
        byWords("neither has one", 0, 7, 100);
        byWords("the later has none", 1, 8, 100);
        due("the earlier has none", 0, NewCall.WORDS, 50, 0, Due.at(5000, 5000), 7, -1, 100);
        due("the earlier has none, the later has point 0", 0, NewCall.WORDS, 50, 0, 0, 7, -1, 100);
        due("both have points", -1, NewCall.FIRST, 50, 0, Due.at(5000, 5101), 8, -1, 100);
    }

    private void wordsWithinTheSpan() {
        of("words, span 60", () -> worded(60, 1, 3));
        byWords("just met", 0, 7, 160);
        byWords("just missed", -1, 7, 161);
        of("words, span 0", () -> worded(0, 1, 3));
        byWords("just met", 0, 7, 100);
        byWords("just missed", -1, 7, 101);
    }

    private void wordsByTheNeed() {
        of("words, need 1 / 3", () -> worded(60, 1, 3));
        byWords("1 of 3", 0, 1, 100);
        byWords("1 of 4", -1, 17, 100);
        byWords("0 of 4", -1, 16, 100);
        of("words, need 1", () -> worded(60, 1, 1));
        byWords("3 of 3", 0, 7, 100);
        byWords("2 of 3", -1, 3, 100);
        of("words, need 0", () -> worded(60, 0, 1));
        byWords("0 of 4 is not below it", 0, 16, 100);
        byWords("0 of 3 is not below it", 0, 0, 100);
        of("words, need 2", () -> worded(60, 2, 1));
        byWords("3 of 3 is below it", -1, 7, 100);
        of("words, need 1 / 2, the word 31 weighs 3", () -> {
            CallJoin x = new CallJoin();
            x.weight(0, 31, 3);
            x.call(1, 0, -1, 1 << 31 | 7, -1, 100);
            return x;
        });
        byWords("3 of 6", 0, 1 << 31, 100);
        byWords("3 of 7", -1, 1 << 31 | 8, 100);
    }

    private void wordsOnlyWithAShare() {
        of("words, a call without any, need 0", () -> {
            CallJoin x = new CallJoin();
            x.rule(0, 100, 60, 0, 1);
            x.weight(0, 6, 0);
            x.call(1, 0, -1, 0, -1, 100);
            return x;
        });
        byWords("no share without words", -1, 0, 100);
        byWords("no share with words that do not weigh", -1, 64, 100);
        byWords("a share with one that weighs", 0, 65, 100);
    }

    /** Three calls without points, each in an event of its own, and then a need of 1 / 4. */
    private static CallJoin threeWordings(int a, int b, int c) {
        CallJoin x = new CallJoin();
        x.rule(0, 0, 600, 2, 1);
        x.call(1, 0, -1, a, -1, 0);
        x.call(2, 0, -1, b, -1, 0);
        x.call(3, 0, -1, c, -1, 0);
        x.rule(0, 0, 600, 1, 4);
        return x;
    }

    private void wordsTheGreatestShare() {
        of("the words 1111, 0111, 1110", () -> threeWordings(0xf, 0x7, 0xe));
        byWords("4 of 4, the first", 0, 0xf, 0);
        byWords("3 of 3, the second", 1, 0x7, 0);
        byWords("3 of 3, the third", 2, 0xe, 0);
        byWords("of the same share the lowest", 1, 0x6, 0);
        byWords("1 of 4, 1 of 3, 1 of 3", 1, 0x2, 0);
        of("the words 1111, 0001, 10000", () -> threeWordings(0xf, 0x1, 0x10));
        byWords("2 of 4 and 1 of 2 are the same: the lowest", 0, 0x3, 0);
        of("the words 0001, 1111, 10000", () -> threeWordings(0x1, 0xf, 0x10));
        byWords("1 of 2 and 2 of 4 are the same: the lowest", 0, 0x3, 0);
        of("the words 0011, 1111, 1100", () -> threeWordings(0x3, 0xf, 0xc));
        byWords("3 of 4 goes before 2 of 3", 1, 0x7, 0);
        of("the words 111111, 000111, 000011", () -> threeWordings(0x3f, 0x7, 0x3));
        byWords("1 of 2 goes before 1 of 3", 2, 0x1, 0);
        byWords("the only one with a share above 0", 0, 0x38, 0);
        of("the same words thrice", () -> threeWordings(3, 3, 3));
        byWords("the lowest", 0, 3, 0);
    }

    /** 3,000, 3,001 and 3,002 of 3,003 are all 999 thousandths, and yet not the same. */
    private void wordsCloseShares() {
        of("shares of 3,000, 3,001 and 3,002 of 3,003", () -> {
            CallJoin x = new CallJoin();
            x.rule(0, 0, 600, 2, 1);
            for (int word = 0; word < 30; word++) {
                x.weight(0, word, 100);
            }
            x.weight(0, 31, 2);
            x.call(1, 0, -1, -1 >>> 2, -1, 0);
            x.call(2, 0, -1, -1 >>> 1, -1, 0);
            x.call(3, 0, -1, ~(1 << 30), -1, 0);
            x.rule(0, 0, 600, 99, 100);
            return x;
        });
        byWords("the greatest", 2, -1, 0);
    }

    private void wordsOfItsKind() {
        of("a call of kind 5 in an event of kind 0", () -> {
            CallJoin x = threeWordings(0xf, 0x70, 0x700);
            x.call(1, 5, -1, 0x70, -1, 0);
            return x;
        });
        byWords("the one of kind 0", 1, 0x70, 0);
        due("the one of kind 5", 3, NewCall.WORDS, 50, 5, -1, 0x70, -1, 0);
        due("none of kind 5 with these words", -1, NewCall.FIRST, 50, 5, -1, 0xf, -1, 0);
        of("words that weigh nothing in another kind", () -> {
            CallJoin x = threeWordings(1, 2, 4);
            x.weight(5, 0, 0);
            return x;
        });
        byWords("they weigh in their own", 0, 1, 0);
    }

    private void wordsNoHoaxAndOpen() {
        for (int marks = 0; marks < 8; marks++) {
            int m = marks;
            of("that of the greatest share has marks " + marks, () -> {
                CallJoin x = threeWordings(3, 7, 15);
                x.mark(0, m);
                return x;
            });
            byWords("or the next", marks < 4 ? 0 : 1, 3, 0);
        }
        for (int state = 1; state < 3; state++) {
            int s = state;
            of("that of the greatest share is in an event with state " + state, () -> {
                CallJoin x = threeWordings(3, 7, 0x700);
                x.state(0, s);
                return x;
            });
            byWords("the next", 1, 3, 0);
        }
    }

    /** Call 0 on a watched stretch, call 1 elsewhere, call 2 without a point. */
    private static CallJoin allReasons() {
        CallJoin x = new CallJoin();
        x.point(0, 0);
        x.point(0, Due.at(1000, 0));
        x.call(1, 0, Due.at(500, 0), 1, -1, 0);
        x.watch(0, 0, 0, 1);
        x.call(2, 0, Due.at(500, 60), 8, -1, 0);
        x.call(3, 0, -1, 3, -1, 0);
        x.split(2);
        return x;
    }

    private void theFirstOfTheseReasons() {
        of("all reasons at once", NewCalls::allReasons);
        due("again goes before stretch", 1, NewCall.AGAIN, 2, 0, Due.at(500, 0), 3, -1, 0);
        due("again goes before place", 2, NewCall.AGAIN, 3, 0, Due.at(500, 60), 8, -1, 0);
        due("again goes before words", 1, NewCall.AGAIN, 2, 0, -1, 3, -1, 0);
        due("stretch goes before place, though that is nearer", 0, NewCall.STRETCH, 50, 0, Due.at(500, 50), 8, -1, 0);
        due("stretch goes before words", 0, NewCall.STRETCH, 50, 0, -1, 3, 0, 0);
        due("place goes before words, though that share is greater", 0, NewCall.PLACE, 50, 0, Due.at(500, 100), 3, -1, 0);
        due("words when nothing is near", 2, NewCall.WORDS, 50, 0, Due.at(9000, 0), 3, -1, 0);
        due("nothing of these", -1, NewCall.FIRST, 50, 0, Due.at(9000, 0), 64, -1, 0);
        due("again too long ago, then stretch", 0, NewCall.STRETCH, 2, 0, Due.at(500, 0), 8, -1, 601);
        due("again too long ago, then none", -1, NewCall.FIRST, 2, 0, Due.at(500, 60), 8, -1, 601);
    }
}

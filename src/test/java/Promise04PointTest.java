/** Promise 4: "One more point of a road: how many.", at most 8. */
public final class Promise04PointTest {
    private static final int LOW = Integer.MIN_VALUE;
    private static final int HIGH = Integer.MAX_VALUE;

    public static void main(String[] args) {
        Due.of("promise 4, point");
        countsUpToEight();
        roadsAreApart();
        leastAndGreatestPoint();
        pointsKeepTheirOrder();
        unknownRoads();
        pointsOutOfRange();
        ninthPoint();
        ninthPointLeavesTheEighth();
        unknownGoesBeforeRange();
        unknownGoesBeforeRoom();
        rangeGoesBeforeRoom();
        Due.end();
    }

    private static CallJoin withFullRoad(int road) {
        CallJoin x = new CallJoin();
        for (int i = 0; i < 8; i++) {
            x.point(road, Due.at(1000 * i, 0));
        }
        return x;
    }

    private static void countsUpToEight() {
        for (int road = 0; road < 8; road++) {
            CallJoin x = new CallJoin();
            int r = road;
            for (int i = 1; i <= 8; i++) {
                Due.is("point " + i + " of road " + road, i, () -> x.point(r, 0));
            }
            Due.refuses("point 9 of road " + road, Due.ROOM, () -> x.point(r, 0));
        }
    }

    private static void roadsAreApart() {
        for (int road = 0; road < 8; road++) {
            CallJoin x = withFullRoad(road);
            for (int other = 0; other < 8; other++) {
                int o = other;
                if (other != road) {
                    Due.is("road " + other + " beside a full one", 1, () -> x.point(o, 0));
                }
            }
        }
    }

    private static void leastAndGreatestPoint() {
        CallJoin x = new CallJoin();
        Due.is("point 0", 1, () -> x.point(0, 0));
        Due.is("point 99,999,999", 2, () -> x.point(0, 99_999_999));
        x.call(1, 0, -1, 0, -1, 0);
        x.watch(0, 0, 0, 1);
        Due.is("on the way between them", 0, () -> x.reasonFor(2, 0, Due.at(5000, 5000), 0, -1, 0));
        Due.is("its one end", 0, () -> x.reasonFor(2, 0, 0, 0, -1, 0));
        Due.is("its other end", 0, () -> x.reasonFor(2, 0, 99_999_999, 0, -1, 0));
    }

    private static void pointsKeepTheirOrder() {
        CallJoin x = withFullRoad(7);
        x.call(1, 0, -1, 0, -1, 0);
        for (int i = 0; i < 7; i++) {
            int from = i;
            x.watch(0, 7, from, from + 1);
            for (int j = 0; j < 7; j++) {
                int middle = Due.at(1000 * j + 500, 0);
                Due.is("piece " + i + ", middle " + j, i == j ? 0 : -1, () -> x.reasonFor(2, 0, middle, 0, -1, 0));
            }
        }
    }

    private static void unknownRoads() {
        Sight.refusedFor("road", Due.UNKNOWN, Sample::mixed, (x, road) -> x.point(road, 0), -1, 8, LOW, HIGH);
        Sight.refusedFor("new: road", Due.UNKNOWN, CallJoin::new, (x, road) -> x.point(road, 0), -1, 8, LOW, HIGH);
    }

    private static void pointsOutOfRange() {
        for (int road = 0; road < 8; road++) {
            int r = road;
            Sight.refusedFor("road " + road + ", point", Due.RANGE, CallJoin::new, (x, point) -> x.point(r, point),
                -1, 100_000_000, LOW, HIGH);
        }
        Sight.refusedFor("point", Due.RANGE, Sample::mixed, (x, point) -> x.point(0, point), -1, 100_000_000);
    }

    private static void ninthPoint() {
        for (int road = 0; road < 8; road++) {
            int r = road;
            Sight.refused("a ninth point of road " + road, Due.ROOM, () -> withFullRoad(r), x -> x.point(r, 5));
        }
        Sight.refused("a ninth point", Due.ROOM, Sample::mixed, x -> x.point(1, 5));
    }

    private static void ninthPointLeavesTheEighth() {
        CallJoin x = withFullRoad(3);
        Due.refuses("a ninth point", Due.ROOM, () -> x.point(3, Due.at(0, 9000)));
        x.call(1, 0, -1, 0, -1, 0);
        x.watch(0, 3, 0, 7);
        Due.is("the eighth is where it was", 0, () -> x.reasonFor(2, 0, Due.at(7050, 0), 0, -1, 0));
        Due.is("the ninth is nowhere", -1, () -> x.reasonFor(2, 0, Due.at(0, 9000), 0, -1, 0));
        Due.refuses("nor does a stretch reach it", Due.RANGE, () -> x.watch(0, 3, 0, 8));
        Due.is("the next road has no point by it", 1, () -> x.point(4, 0));
    }

    private static void unknownGoesBeforeRange() {
        Sight.refused("unknown road, point", Due.UNKNOWN, Sample::mixed, x -> x.point(8, -1));
        Sight.refused("unknown road, point", Due.UNKNOWN, Sample::mixed, x -> x.point(-1, 100_000_000));
    }

    private static CallJoin withAllRoadsFull() {
        CallJoin x = new CallJoin();
        for (int i = 0; i < 64; i++) {
            x.point(i / 8, i);
        }
        return x;
    }

    private static void unknownGoesBeforeRoom() {
        Sight.refused("unknown road, all full", Due.UNKNOWN, Promise04PointTest::withAllRoadsFull, x -> x.point(8, 0));
    }

    private static void rangeGoesBeforeRoom() {
        Sight.refused("point -1 of a full road", Due.RANGE, Sample::mixed, x -> x.point(1, -1));
        Sight.refused("point 100,000,000 of a full road", Due.RANGE, Sample::mixed, x -> x.point(1, 100_000_000));
    }
}

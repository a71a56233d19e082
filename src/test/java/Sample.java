/** Objects that many tests begin with. */
final class Sample {
    private Sample() {
    }

    /**
     * Some of everything: calls 0, 5, 7 (and 3, 6 by a merge) in the open event 0, which is watched;
     * call 1 in the handed-over event 1, call 2 in the closed event 2, call 4 in the open event 4;
     * event 3 is merged. Road 0 has 3 points, road 1 has 8, road 2 has 1. The latest time is 80.
     */
    static CallJoin mixed() {
        CallJoin x = new CallJoin();
        x.rule(1, 300, 100, 1, 3);
        x.weight(1, 2, 7);
        x.point(0, Due.at(1000, 1000));
        x.point(0, Due.at(2000, 1000));
        x.point(0, Due.at(2000, 2000));
        for (int i = 0; i < 8; i++) {
            x.point(1, Due.at(1000 * i, 5000));
        }
        x.point(2, Due.at(9000, 9000));
        x.call(10, 0, Due.at(1500, 1000), 3, -1, 10);
        x.call(11, 1, Due.at(4000, 4000), 6, -1, 20);
        x.call(12, 2, -1, 9, 3, 30);
        x.call(13, 3, Due.at(7000, 7000), 0, -1, 40);
        x.call(14, 4, -1, 5, -1, 50);
        x.call(10, 0, -1, 1, -1, 60);
        x.call(13, 5, -1, 1, -1, 70);
        x.call(15, 0, Due.at(1600, 1000), 1, -1, 80);
        x.watch(0, 0, 0, 1);
        x.state(1, 1);
        x.state(2, 2);
        x.merge(3, 5);
        x.mark(1, 1);
        x.mark(4, 4);
        x.mark(7, 2);
        return x;
    }

    /** Calls 0, 1, .. of the lines 0, 1, .. at the times 0, 1, .., each alone in an event of its number. */
    static CallJoin alone(int calls) {
        CallJoin x = new CallJoin();
        for (int line = 0; line < calls; line++) {
            x.call(line, line % 8, -1, 0, -1, line);
        }
        return x;
    }

    /** Calls 0, 1, .. of one line at the times 0, 1, .., each with the one before it as its reason. */
    static CallJoin chain(int calls) {
        CallJoin x = new CallJoin();
        for (int t = 0; t < calls; t++) {
            x.call(1, t % 8, -1, 0, -1, t);
        }
        return x;
    }

    /** Calls 0 .. 59 as alone(60) has them, and 60 .. 119 of the line 0, joined to event 0: no room at all. */
    static CallJoin full() {
        CallJoin x = alone(60);
        for (int t = 60; t < 120; t++) {
            x.call(0, 0, -1, 0, -1, t);
        }
        return x;
    }
}

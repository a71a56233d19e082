/** A call that comes to an object: the reason that is due for it, and the way of joining (0 first .. 4 words). */
record NewCall(String name, Sight.Maker before, int[] told, int reason, int how) {
    static final int FIRST = 0;
    static final int AGAIN = 1;
    static final int STRETCH = 2;
    static final int PLACE = 3;
    static final int WORDS = 4;

    static int[] told(int line, int kind, int point, int words, int road, int t) {
        return new int[] {line, kind, point, words, road, t};
    }

    int giveTo(CallJoin x) {
        return x.call(told[0], told[1], told[2], told[3], told[4], told[5]);
    }

    int askOf(CallJoin x) {
        return x.reasonFor(told[0], told[1], told[2], told[3], told[4], told[5]);
    }
}

/** Promises 12 to 17: share, agree, callAt, eventAt, member, count. */
public final class ReadTest {
    public static void main(String[] args) {
        shares();
        shareRefuses();
        agreements();
        agreeRefuses();
        calls();
        events();
        weights();
        points();
        members();
        counts();
        Due.end();
    }

    private static CallJoin withWords(int... words) {
        CallJoin x = new CallJoin();
        for (int line = 0; line < words.length; line++) {
            x.call(line, line % 2, -1, words[line], -1, line);
        }
        return x;
    }

    private static void both(String what, int want, CallJoin x, int a, int b) {
        Due.is(what, want, () -> x.share(a, b));
        Due.is(what + ", turned round", want, () -> x.share(b, a));
    }

    private static void shares() {
        CallJoin x = withWords(7, 3, 7, 8, -1, 0);
        x.weight(1, 2, 4);
        both("2 of 6, by the later one's kind", 333, x, 0, 1);
        both("2 of 3, by the later one's kind", 666, x, 1, 2);
        both("all", 1000, x, 0, 2);
        both("none of some", 0, x, 0, 3);
        both("3 of 32", 93, x, 0, 4);
        both("words against none", 0, x, 0, 5);
        x.weight(1, 0, 100);
        both("101 of 105", 961, x, 0, 1);
        CallJoin y = withWords(-1, 1 << 31);
        for (int word = 0; word < 32; word++) {
            y.weight(1, word, 100);
        }
        both("100 of 3,200", 31, y, 0, 1);
        CallJoin z = withWords(1 << 31 | 1, 1 << 31);
        both("the highest word", 500, z, 0, 1);
    }

    private static void shareRefuses() {
        CallJoin x = withWords(0, 0, 4, 4);
        Due.refuses("no words", Due.NO_SHARE, () -> x.share(0, 1));
        x.weight(1, 2, 0);
        Due.refuses("no weights", Due.NO_SHARE, () -> x.share(2, 3));
        Due.is("no weights of the other kind only", 0, () -> x.share(0, 2));
        Due.refuses("the same", Due.UNKNOWN, () -> x.share(2, 2));
        Due.refuses("a -1", Due.UNKNOWN, () -> x.share(-1, 0));
        Due.refuses("a 4", Due.UNKNOWN, () -> x.share(4, 0));
        Due.refuses("b -1", Due.UNKNOWN, () -> x.share(0, -1));
        Due.refuses("b 4", Due.UNKNOWN, () -> x.share(0, 4));
    }

    private static void agree(String what, int want, CallJoin x, int a, int b) {
        Due.is(what, want, () -> x.agree(a, b));
        Due.is(what + ", turned round", want, () -> x.agree(b, a));
    }

    private static void agreements() {
        CallJoin x = new CallJoin();
        x.rule(0, 500, 10, 1, 2);
        x.rule(1, 100, 20, 1, 1);
        x.call(0, 0, Due.at(1000, 1000), 3, -1, 0);
        x.call(1, 0, Due.at(1300, 1400), 1, -1, 10);
        x.call(2, 1, Due.at(1300, 1400), 1, -1, 20);
        x.call(3, 0, -1, 1, -1, 20);
        x.call(4, 1, -1, 1, -1, 20);
        x.call(5, 0, -1, 0, -1, 20);
        x.call(6, 0, Due.at(1000, 1000), 0, -1, 20);
        x.call(7, 0, Due.at(1150, 1200), 0, -1, 20);
        x.call(8, 0, Due.at(1150, 1201), 0, -1, 20);
        agree("by place, at the distance, the span and the need", 1, x, 0, 1);
        agree("above the later one's distance", 0, x, 0, 2);
        agree("by place, other kinds", 1, x, 1, 2);
        agree("by words, at the span", 2, x, 1, 3);
        agree("above the later one's span", 0, x, 0, 3);
        agree("below the later one's need", 0, x, 0, 4);
        agree("by words, both without a point", 2, x, 3, 4);
        agree("words against none", 0, x, 3, 5);
        agree("place without share, at half", 1, x, 6, 7);
        agree("place without share, above half", 0, x, 6, 8);
        agree("no share, no point", 0, x, 5, 6);
        x.rule(0, 500, 100_000, 0, 1);
        agree("no need, a share of 0, by words", 2, x, 3, 5);
        agree("no need, but no share", 0, x, 5, 6);
        x.mark(0, 4);
        x.state(0, 2);
        agree("neither marks nor states count", 1, x, 0, 1);
    }

    private static void agreeRefuses() {
        CallJoin x = withWords(1, 1);
        Due.refuses("the same", Due.UNKNOWN, () -> x.agree(1, 1));
        Due.refuses("a -1", Due.UNKNOWN, () -> x.agree(-1, 0));
        Due.refuses("a 2", Due.UNKNOWN, () -> x.agree(2, 0));
        Due.refuses("b -1", Due.UNKNOWN, () -> x.agree(0, -1));
        Due.refuses("b 2", Due.UNKNOWN, () -> x.agree(0, 2));
    }

    private static void calls() {
        CallJoin x = new CallJoin();
        x.point(2, 0);
        x.point(2, Due.at(100, 0));
        x.call(1, 3, Due.at(50, 0), 1, -1, 0);
        x.watch(0, 2, 0, 1);
        x.call(1, 4, -1, 0, -1, 0);
        x.call(2, 3, -1, 0, 2, 0);
        x.call(3, 3, Due.at(50, 60), 1, -1, 0);
        x.call(4, 3, -1, 1, -1, 0);
        x.call(5, 5, -1, 0, -1, 0);
        x.merge(1, 4);
        x.mark(4, 6);
        int[][] want = {{0, -1, 0, 3, 0}, {0, 0, 0, 4, 1}, {0, 0, 0, 3, 2}, {0, 0, 0, 3, 3}, {0, 0, 6, 3, 4}, {0, 4, 0, 5, 5}};
        for (int call = 0; call < want.length; call++) {
            for (int what = 0; what < 5; what++) {
                int c = call;
                int w = what;
                Due.is("callAt(" + c + ", " + w + ")", want[c][w], () -> x.callAt(c, w));
            }
        }
        Due.refuses("call -1", Due.UNKNOWN, () -> x.callAt(-1, 0));
        Due.refuses("call 6", Due.UNKNOWN, () -> x.callAt(6, 0));
        Due.refuses("what -1", Due.UNKNOWN, () -> x.callAt(0, -1));
        Due.refuses("what 5", Due.UNKNOWN, () -> x.callAt(0, 5));
    }

    private static void events() {
        CallJoin x = new CallJoin();
        x.call(1, 3, Due.at(50, 7), 1, -1, 4);
        Due.is("the time of its only call", 4, () -> x.eventAt(0, 6));
        x.call(2, 6, -1, 1, -1, 5);
        x.call(1, 4, -1, 0, -1, 9);
        x.state(1, 1);
        int[][] want = {{0, 2, 3, 9, Due.at(50, 7), 0, 9}, {1, 1, 6, 4, -1, 1, 5}};
        for (int event = 0; event < want.length; event++) {
            for (int what = 0; what < 7; what++) {
                int e = event;
                int w = what;
                Due.is("eventAt(" + e + ", " + w + ")", want[e][w], () -> x.eventAt(e, w));
            }
        }
        x.mark(2, 4);
        Due.is("the latest call, though a hoax", 9, () -> x.eventAt(0, 6));
        Due.is("how many, with hoaxes", 2, () -> x.eventAt(0, 1));
        Due.refuses("event -1", Due.UNKNOWN, () -> x.eventAt(-1, 0));
        Due.refuses("event 2", Due.UNKNOWN, () -> x.eventAt(2, 0));
        Due.refuses("what -1", Due.UNKNOWN, () -> x.eventAt(0, -1));
        Due.refuses("what 7", Due.UNKNOWN, () -> x.eventAt(0, 7));
    }

    private static void weights() {
        CallJoin x = new CallJoin();
        x.call(1, 0, Due.at(0, 0), 0, -1, 0);
        x.call(2, 0, -1, 0, -1, 0);
        int[] withPoint = {5, 3, 5, 3, 0, 0, 0, 0};
        int[] without = {4, 2, 4, 2, 0, 0, 0, 0};
        for (int marks = 0; marks < 8; marks++) {
            x.mark(0, marks);
            x.mark(1, marks);
            Due.is("with a point, marks " + marks, withPoint[marks], () -> x.eventAt(0, 3));
            Due.is("without one, marks " + marks, without[marks], () -> x.eventAt(1, 3));
        }
        x.mark(0, 1);
        x.mark(1, 0);
        x.merge(1, 0);
        Due.is("the sum", 7, () -> x.eventAt(0, 3));
    }

    private static void points() {
        CallJoin x = new CallJoin();
        x.call(1, 0, -1, 0, -1, 0);
        x.call(1, 0, Due.at(3, 3), 0, -1, 0);
        x.call(2, 1, Due.at(4, 4), 0, -1, 0);
        x.call(1, 0, Due.at(0, 0), 0, -1, 0);
        Due.is("the lowest with one", Due.at(3, 3), () -> x.eventAt(0, 4));
        x.mark(1, 4);
        Due.is("the lowest with one that is no hoax", Due.at(0, 0), () -> x.eventAt(0, 4));
        x.mark(3, 7);
        Due.is("none", -1, () -> x.eventAt(0, 4));
        x.mark(1, 3);
        x.merge(0, 2);
        Due.is("the lowest, not the first", Due.at(3, 3), () -> x.eventAt(1, 4));
    }

    private static void members() {
        CallJoin x = new CallJoin();
        x.call(1, 0, -1, 0, -1, 0);
        x.call(2, 0, -1, 0, -1, 0);
        x.call(1, 0, -1, 0, -1, 0);
        x.call(2, 0, -1, 0, -1, 0);
        Due.is("member 0", 1, () -> x.member(1, 0));
        Due.is("member 1", 3, () -> x.member(1, 1));
        Due.refuses("member 2", Due.RANGE, () -> x.member(1, 2));
        Due.refuses("member -1", Due.RANGE, () -> x.member(1, -1));
        Due.refuses("event -1", Due.UNKNOWN, () -> x.member(-1, 0));
        Due.refuses("event 2", Due.UNKNOWN, () -> x.member(2, 0));
        Due.refuses("unknown goes before range", Due.UNKNOWN, () -> x.member(2, -1));
        x.merge(0, 3);
        for (int i = 0; i < 4; i++) {
            int n = i;
            Due.is("by numbers", n, () -> x.member(1, n));
        }
        Due.refuses("a merged event has none", Due.RANGE, () -> x.member(0, 0));
    }

    private static void counts() {
        CallJoin x = new CallJoin();
        for (int line = 0; line < 5; line++) {
            x.call(line, 0, -1, 0, -1, 0);
        }
        x.call(0, 0, -1, 0, -1, 0);
        x.state(0, 1);
        x.state(1, 2);
        x.merge(2, 3);
        x.mark(0, 4);
        x.mark(1, 7);
        x.mark(2, 3);
        int[] want = {6, 5, 2, 2};
        for (int what = 0; what < 4; what++) {
            int w = what;
            Due.is("count(" + w + ")", want[w], () -> x.count(w));
        }
        x.mark(1, 3);
        Due.is("one hoax less", 1, () -> x.count(3));
        Due.refuses("what -1", Due.UNKNOWN, () -> x.count(-1));
        Due.refuses("what 4", Due.UNKNOWN, () -> x.count(4));
    }
}

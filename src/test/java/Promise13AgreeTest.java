/** Promise 13: "Whether two calls agree (0 not, 1 by place, 2 by words), by the rule of the later one's kind." */
public final class Promise13AgreeTest {
    private static final int LOW = Integer.MIN_VALUE;
    private static final int HIGH = Integer.MAX_VALUE;
    private static final int NOT = 0;
    private static final int PLACE = 1;
    private static final int WORDS = 2;

    public static void main(String[] args) {
        Due.of("promise 13, agree");
        spanByPlace();
        spanByWords();
        spanAtTheEndOfTime();
        distanceJustMetAndMissed();
        distanceAcrossTheField();
        needByPlace();
        halfTheDistanceWithoutAShare();
        needByWords();
        wordsNeedAShare();
        wordsWhenOneHasNoPoint();
        byTheLaterOnesKind();
        laterByNumberInTheSameSecond();
        kindsMarksAndStatesDoNotCount();
        thePresentRules();
        changesNothing();
        unknownCalls();
        theSameCall();
        Due.end();
    }

    /** Two calls of kind 0 of two lines, under a rule. */
    private static final class Two {
        final CallJoin x = new CallJoin();

        Two(int distance, int span, int p, int q) {
            x.rule(0, distance, span, p, q);
        }

        Two call(int point, int words, int t) {
            x.call(x.count(0), 0, point, words, -1, t);
            return this;
        }

        void agree(String what, int want) {
            Promise13AgreeTest.agree(what, want, x, 0, 1);
        }
    }

    private static void agree(String what, int want, CallJoin x, int a, int b) {
        Due.is(what, want, () -> x.agree(a, b));
        Due.is(what + ", turned round", want, () -> x.agree(b, a));
    }

    private static void spanByPlace() {
        new Two(200, 60, 1, 2).call(0, 1, 100).call(0, 1, 160).agree("span just met", PLACE);
        new Two(200, 60, 1, 2).call(0, 1, 100).call(0, 1, 161).agree("span just missed", NOT);
        new Two(200, 60, 1, 2).call(0, 0, 100).call(0, 0, 160).agree("no share: span just met", PLACE);
        new Two(200, 60, 1, 2).call(0, 0, 100).call(0, 0, 161).agree("no share: span just missed", NOT);
        new Two(200, 0, 1, 2).call(0, 1, 100).call(0, 1, 100).agree("span 0 just met", PLACE);
        new Two(200, 0, 1, 2).call(0, 1, 100).call(0, 1, 101).agree("span 0 just missed", NOT);
    }

    private static void spanByWords() {
        new Two(200, 60, 1, 2).call(-1, 1, 100).call(-1, 1, 160).agree("words: span just met", WORDS);
        new Two(200, 60, 1, 2).call(-1, 1, 100).call(-1, 1, 161).agree("words: span just missed", NOT);
        new Two(200, 0, 1, 2).call(-1, 1, 100).call(-1, 1, 100).agree("words: span 0 just met", WORDS);
        new Two(200, 0, 1, 2).call(-1, 1, 100).call(-1, 1, 101).agree("words: span 0 just missed", NOT);
    }

    private static void spanAtTheEndOfTime() {
        new Two(200, 100_000, 1, 2).call(0, 1, 0).call(0, 1, 100_000).agree("span 100,000 just met", PLACE);
        new Two(200, 100_000, 1, 2).call(0, 1, 0).call(0, 1, 100_001).agree("span 100,000 just missed", NOT);
        new Two(200, 100_000, 1, 2).call(0, 1, 0).call(0, 1, HIGH).agree("all the time there is", NOT);
        new Two(200, 100_000, 1, 2).call(0, 1, HIGH - 100_000).call(0, 1, HIGH).agree("the last of it", PLACE);
    }

    private static void distanceJustMetAndMissed() {
        int here = Due.at(3000, 3000);
        new Two(500, 60, 1, 2).call(here, 1, 0).call(Due.at(3500, 3000), 1, 0).agree("500 east", PLACE);
        new Two(500, 60, 1, 2).call(here, 1, 0).call(Due.at(3501, 3000), 1, 0).agree("501 east", NOT);
        new Two(500, 60, 1, 2).call(here, 1, 0).call(Due.at(3000, 2500), 1, 0).agree("500 south", PLACE);
        new Two(500, 60, 1, 2).call(here, 1, 0).call(Due.at(3000, 2499), 1, 0).agree("501 south", NOT);
        new Two(500, 60, 1, 2).call(here, 1, 0).call(Due.at(2700, 3400), 1, 0).agree("300 and 400", PLACE);
        new Two(500, 60, 1, 2).call(here, 1, 0).call(Due.at(2699, 3400), 1, 0).agree("301 and 400", NOT);
        new Two(0, 60, 1, 2).call(here, 1, 0).call(here, 1, 0).agree("distance 0 just met", PLACE);
        new Two(0, 60, 1, 2).call(here, 1, 0).call(Due.at(3000, 3001), 1, 0).agree("distance 0 just missed", NOT);
    }

    private static void distanceAcrossTheField() {
        int corner = Due.at(9999, 9999);
        new Two(20_000, 60, 1, 2).call(0, 1, 0).call(corner, 1, 0).agree("distance 20,000 across", PLACE);
        new Two(14_141, 60, 1, 2).call(0, 1, 0).call(corner, 1, 0).agree("distance 14,141 across", PLACE);
        new Two(14_140, 60, 1, 2).call(0, 1, 0).call(corner, 1, 0).agree("distance 14,140 across", NOT);
        new Two(20_000, 60, 1, 2).call(0, 0, 0).call(Due.at(6000, 8000), 0, 0).agree("no share: half of 20,000", PLACE);
        new Two(20_000, 60, 1, 2).call(0, 0, 0).call(Due.at(6001, 8000), 0, 0).agree("no share: above half of it", NOT);
        new Two(20_000, 60, 1, 2).call(0, 0, 0).call(corner, 0, 0).agree("no share: across", NOT);
        new Two(14_140, 60, 1, 2).call(Due.at(9999, 0), 1, 0).call(Due.at(0, 9999), 1, 0).agree("the other way across", NOT);
    }

    private static void needByPlace() {
        new Two(200, 60, 1, 3).call(0, 7, 0).call(0, 1, 0).agree("1 of 3, need 1 / 3", PLACE);
        new Two(200, 60, 1, 3).call(0, 7, 0).call(0, 9, 0).agree("1 of 4, need 1 / 3", NOT);
        new Two(200, 60, 1, 1).call(0, 7, 0).call(0, 7, 0).agree("3 of 3, need 1", PLACE);
        new Two(200, 60, 1, 1).call(0, 7, 0).call(0, 3, 0).agree("2 of 3, need 1", NOT);
        new Two(200, 60, 100, 99).call(0, 7, 0).call(0, 7, 0).agree("3 of 3, need 100 / 99", NOT);
        new Two(200, 60, 99, 100).call(0, 7, 0).call(0, 7, 0).agree("3 of 3, need 99 / 100", PLACE);
        new Two(200, 60, 1, 100).call(0, 7, 0).call(0, 8, 0).agree("0 of 4, need 1 / 100", NOT);
        new Two(200, 60, 0, 1).call(0, 7, 0).call(0, 8, 0).agree("0 of 4, need 0", PLACE);
        new Two(200, 60, 0, 1).call(0, 7, 0).call(Due.at(200, 0), 8, 0).agree("0 of 4, need 0, at the distance", PLACE);
    }

    private static void halfTheDistanceWithoutAShare() {
        new Two(500, 60, 1, 2).call(0, 0, 0).call(Due.at(250, 0), 0, 0).agree("half of 500 just met", PLACE);
        new Two(500, 60, 1, 2).call(0, 0, 0).call(Due.at(251, 0), 0, 0).agree("half of 500 just missed", NOT);
        new Two(500, 60, 1, 2).call(0, 0, 0).call(Due.at(150, 200), 0, 0).agree("slanted just met", PLACE);
        new Two(500, 60, 1, 2).call(0, 0, 0).call(Due.at(150, 201), 0, 0).agree("slanted just missed", NOT);
        new Two(501, 60, 1, 2).call(0, 0, 0).call(Due.at(250, 0), 0, 0).agree("half of 501 just met", PLACE);
        new Two(501, 60, 1, 2).call(0, 0, 0).call(Due.at(251, 0), 0, 0).agree("half of 501 just missed", NOT);
        new Two(0, 60, 1, 2).call(0, 0, 0).call(0, 0, 0).agree("half of 0 just met", PLACE);
        new Two(1, 60, 1, 2).call(0, 0, 0).call(1, 0, 0).agree("half of 1 just missed", NOT);
        new Two(500, 60, 100, 1).call(0, 0, 0).call(Due.at(250, 0), 0, 0).agree("no need stands against it", PLACE);
        new Two(500, 60, 1, 2).call(0, 0, 0).call(0, 1, 0).agree("a share of 0 is a share", NOT);
    }

    private static void needByWords() {
        new Two(200, 60, 1, 3).call(-1, 7, 0).call(-1, 1, 0).agree("words: 1 of 3, need 1 / 3", WORDS);
        new Two(200, 60, 1, 3).call(-1, 7, 0).call(-1, 9, 0).agree("words: 1 of 4, need 1 / 3", NOT);
        new Two(200, 60, 1, 1).call(-1, 7, 0).call(-1, 7, 0).agree("words: 3 of 3, need 1", WORDS);
        new Two(200, 60, 100, 1).call(-1, 7, 0).call(-1, 7, 0).agree("words: 3 of 3, need 100", NOT);
        new Two(200, 60, 0, 1).call(-1, 7, 0).call(-1, 8, 0).agree("words: 0 of 4, need 0", WORDS);
        new Two(200, 60, 0, 1).call(-1, 7, 0).call(-1, 0, 0).agree("words: 0 of 3, need 0", WORDS);
        new Two(200, 60, 1, 100).call(-1, 7, 0).call(-1, 8, 0).agree("words: 0 of 4, need 1 / 100", NOT);
    }

    private static void wordsNeedAShare() {
        new Two(200, 60, 0, 1).call(-1, 0, 0).call(-1, 0, 0).agree("no words, need 0", NOT);
        new Two(200, 60, 0, 1).call(0, 0, 0).call(-1, 0, 0).agree("no words, need 0, one point", NOT);
        Two weightless = new Two(200, 60, 0, 1).call(-1, 4, 0).call(-1, 4, 0);
        weightless.agree("words that weigh", WORDS);
        weightless.x.weight(0, 2, 0);
        weightless.agree("words that do not", NOT);
    }

    private static void wordsWhenOneHasNoPoint() {
        new Two(0, 60, 1, 2).call(-1, 1, 0).call(-1, 1, 0).agree("neither has one", WORDS);
        new Two(0, 60, 1, 2).call(-1, 1, 0).call(0, 1, 0).agree("the earlier has none", WORDS);
        new Two(0, 60, 1, 2).call(0, 1, 0).call(-1, 1, 0).agree("the later has none", WORDS);
        new Two(0, 60, 1, 2).call(0, 1, 0).call(1, 1, 0).agree("both have one, too far", NOT);
        new Two(0, 60, 1, 2).call(0, 1, 0).call(0, 1, 0).agree("both have one", PLACE);
    }

    private static void byTheLaterOnesKind() {
        CallJoin x = new CallJoin();
        x.rule(0, 500, 10, 1, 2);
        x.rule(1, 100, 20, 1, 1);
        x.weight(1, 1, 0);
        x.call(0, 0, Due.at(0, 0), 5, -1, 0);
        x.call(1, 1, Due.at(100, 0), 5, -1, 20);
        x.call(2, 1, Due.at(101, 0), 5, -1, 20);
        x.call(3, 0, Due.at(601, 0), 1, -1, 20);
        x.call(4, 0, Due.at(602, 0), 1, -1, 20);
        x.call(5, 1, Due.at(601, 0), 1, -1, 20);
        x.call(6, 1, Due.at(601, 0), 3, -1, 20);
        x.call(7, 0, -1, 1, -1, 30);
        x.call(8, 0, -1, 1, -1, 31);
        agree("kind 1: distance and span just met", PLACE, x, 0, 1);
        agree("kind 1: distance just missed", NOT, x, 0, 2);
        agree("kind 0: distance and need just met", PLACE, x, 2, 3);
        agree("kind 0: distance just missed", NOT, x, 2, 4);
        agree("kind 1: need just met", PLACE, x, 3, 5);
        agree("kind 1: by its own weights", PLACE, x, 3, 6);
        agree("kind 0: words, span just met", WORDS, x, 1, 7);
        agree("kind 0: words, span just missed", NOT, x, 1, 8);
    }

    private static void laterByNumberInTheSameSecond() {
        CallJoin x = new CallJoin();
        x.rule(0, 500, 0, 1, 2);
        x.rule(1, 100, 0, 1, 2);
        x.call(0, 0, 0, 1, -1, 7);
        x.call(1, 1, Due.at(200, 0), 1, -1, 7);
        x.call(2, 0, Due.at(400, 0), 1, -1, 7);
        agree("the later is of kind 1", NOT, x, 0, 1);
        agree("the later is of kind 0", PLACE, x, 1, 2);
    }

    private static void kindsMarksAndStatesDoNotCount() {
        CallJoin x = new CallJoin();
        x.call(0, 3, 0, 1, -1, 0);
        x.call(1, 4, 0, 1, -1, 0);
        agree("kinds that differ", PLACE, x, 0, 1);
        x.mark(0, 4);
        x.mark(1, 7);
        agree("hoaxes", PLACE, x, 0, 1);
        x.state(0, 1);
        x.state(1, 2);
        agree("events that are not open", PLACE, x, 0, 1);
    }

    private static void thePresentRules() {
        Two two = new Two(200, 60, 1, 2).call(0, 1, 0).call(Due.at(200, 0), 1, 60);
        two.agree("at first", PLACE);
        two.x.rule(0, 199, 60, 1, 2);
        two.agree("another distance", NOT);
        two.x.rule(0, 200, 59, 1, 2);
        two.agree("another span", NOT);
        two.x.rule(0, 200, 60, 2, 1);
        two.agree("another need", NOT);
        two.x.rule(0, 200, 60, 1, 1);
        two.agree("again", PLACE);
        two.x.weight(0, 0, 0);
        two.agree("another weight", NOT);
    }

    private static void changesNothing() {
        Sight.unchanged("agree", Sample::mixed, x -> x.agree(0, 7));
        Sight.unchanged("agree", Sample::mixed, x -> x.agree(5, 0));
    }

    private static void unknownCalls() {
        Sight.refusedFor("a", Due.UNKNOWN, Sample::mixed, (x, a) -> x.agree(a, 0), -1, 8, LOW, HIGH);
        Sight.refusedFor("b", Due.UNKNOWN, Sample::mixed, (x, b) -> x.agree(0, b), -1, 8, LOW, HIGH);
        Sight.refusedFor("new: b", Due.UNKNOWN, CallJoin::new, (x, b) -> x.agree(0, b), 0, 1);
        Sight.refusedFor("120 calls: b", Due.UNKNOWN, Sample::full, (x, b) -> x.agree(0, b), -1, 120);
        Due.is("the last of 120 calls", NOT, () -> Sample.full().agree(0, 119));
        Due.refuses("two that are both unknown", Due.UNKNOWN, () -> Sample.mixed().agree(8, 9));
    }

    private static void theSameCall() {
        for (int call = 0; call < 8; call++) {
            int c = call;
            Sight.refused("call " + call + " twice", Due.UNKNOWN, Sample::mixed, x -> x.agree(c, c));
        }
    }
}

/** The example of README.md answers what it says there. */
public final class ReadmeTest {
    public static void main(String[] args) {
        Due.of("README.md");
        CallJoin x = new CallJoin();
        x.rule(1, 100, 60, 1, 3);
        Due.is("the call a", 0, () -> x.call(5, 1, 10_001_000, 3, -1, 0));
        Due.is("the call b", 1, () -> x.call(6, 1, 10_501_050, 3, -1, 10));
        Due.is("the way b was joined", 3, () -> x.callAt(1, 4));
        Due.is("the event of b", 0, () -> x.callAt(1, 0));
        Due.is("the reason of b", 0, () -> x.callAt(1, 1));
        Due.is("the event's weight", 10, () -> x.eventAt(0, 3));
        Due.is("the split", 1, () -> x.split(1));
        Due.is("the merge", 2, () -> x.merge(1, 0));
        Due.is("the way b is back", 5, () -> x.callAt(1, 4));
        Due.end();
    }
}

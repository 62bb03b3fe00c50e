/** The example that README.md tells, call by call, with the answers that stand behind them there. */
public final class ReadmeTest {
    private ReadmeTest() {
    }

    public static void main(String[] args) {
        Checks.test("README: the example", ReadmeTest::example);
        Checks.end();
    }

    private static void example() {
        House x = new House();
        for (char c : "a = jet 0".toCharArray()) {
            x.feed(1, c);
        }
        Checks.due("say", x.say(), 0);
        Checks.due("again", x.again(), 2);
        Checks.due("load", x.load(), 0);
        Checks.due("steps", x.look(5), 26);
        Checks.due("cells", x.look(3), 25);
        Checks.due("feed", x.feed(2, 0xff01), 2);
        Checks.due("run", x.run(26, 25, false), 2);
        Checks.due("out", x.out(0), 0x80);
        Checks.due("again", x.again(), 2);
        Checks.due("value", x.value(0, true), 7);
        Checks.due("its text", x.outBytes(), Checks.bytes("(1,#00)"));
    }
}

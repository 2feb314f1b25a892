/** The calls of README.md's example, so that it says what is. */
public final class ReadmeTest {
    private ReadmeTest() {
    }

    public static void main(String[] args) {
        Check.sentence("README.md", "Use");
        PromotedNumbers x = new PromotedNumbers();
        Check.due("type (/ 6 4)", x.type(0x29342036202f28L), true);
        Check.due("work", x.work(), 2);
        Check.due("digit 0", x.digit(0), '3');
        Check.due("written", Check.written(x), "3/2");
        Check.due("keep 0", x.keep(0), 2);
        Check.due("no text", x.erase(), 0);
        Check.due("type (- a", x.type(0x61202d28L), true);
        Check.due("work", Check.work(x), Check.NO_EXPRESSION);
        Check.due("fault", x.fault(), 4);
        Check.due("type  2)", x.type(0x293220L), true);
        Check.due("work", x.work(), 2);
        Check.due("sign", x.sign(), -1);
        Check.due("bits of n", x.bits(0, 0), 1);
        Check.due("bits of d", x.bits(1, 0), 2);
        Check.due("against 0", x.against(0), -1);
        Check.due("fetch 0", x.fetch(0), 2);
        Check.due("written", Check.written(x), "3/2");
        Check.end();
    }
}

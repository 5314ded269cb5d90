/** The example of README.md does what is said of it there. */
public final class ExampleTest {
    public static void main(String[] args) {
        Checks c = new Checks();
        HostedCalls x = new HostedCalls();
        int word = x.type(3, 0);
        x.part(word);
        int words = x.type(8, 0);
        int a = x.instance();
        int b = x.instance();
        int sum = x.function(b, words, word);
        x.write(a, 0, 4, 8 | 2 << 16);
        x.write(a, 8, 8, 5 | 7L << 32);
        x.enter(a);
        c.due("call", x.call(sum, words, 0), 0);
        int list = x.passed();
        int first = x.read(b, list);
        c.due("two words", x.read(b, list + 2), 2);
        x.write(b, 0, 4, x.read(b, first) + x.read(b, first + 4));
        c.due("back", x.back(word, 0), 0);
        c.due("their sum", x.read(a, x.passed()), 12);
        x.leave();
        c.due("nothing runs", x.depth(), 0);
        c.end();
    }
}

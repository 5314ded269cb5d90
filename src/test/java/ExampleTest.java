import java.io.IOException;
import java.nio.file.Files;
import java.nio.file.Path;

/** The examples of README.md do what is said of them there. */
public final class ExampleTest {
    private static final Checks C = new Checks();
    private static final Path README = Path.of("README.md");
    private static final Path THIS = Path.of("src/test/java/ExampleTest.java");

    public static void main(String[] args) throws IOException {
        examples();
        everyLineIsHere(Files.readString(README), Files.readString(THIS));
        C.end();
    }

    private static void examples() {
        HostedCalls x = new HostedCalls();
        int word = x.type(3, 0);
        x.part(word);
        int words = x.type(8, 0);
        int a = x.instance();
        int b = x.instance();
        int sum = x.function(b, words, word);

        x.write(a, 0, 4, 8 | 2 << 16);
        x.write(a, 8, 8, 5 | 7L << 32);
        x.enter(a);
        C.due("call", x.call(sum, words, 0), 0);
        int list = x.passed();
        int first = x.read(b, list);
        C.due("two words", x.read(b, list + 2), 2);
        x.write(b, 0, 4, x.read(b, first) + x.read(b, first + 4));
        C.due("back", x.back(word, 0), 0);
        C.due("their sum", x.read(a, x.passed()), 12);
        x.leave();
        C.due("nothing runs", x.depth(), 0);
        resources(x, a, b, word);
        trap(x, a, b, words, sum);
    }

    private static void resources(HostedCalls x, int a, int b, int word) {
        int own = x.type(11, 2);
        int borrow = x.type(12, 2);
        int keep = x.function(b, own, word);
        int look = x.function(b, borrow, word);

        x.enter(a);
        int handle = x.make(2);
        C.due("the first handle", handle, 1);
        x.write(a, 0, 1, handle);
        C.due("a call that borrows", x.call(look, borrow, 0), 0);
        int lent = x.read(b, x.passed());
        C.due("it is lent", x.handle(b, lent, 2), 0);
        C.due("one loan", x.handle(a, handle, 3), 1);
        C.due("back", x.back(word, 0), 0);
        C.due("no loan", x.handle(a, handle, 3), 0);
        C.due("a call that moves", x.call(keep, own, 0), 0);
        C.due("it is moved", x.handle(a, handle, 0), HostedCalls.NONE);
        C.due("back", x.back(word, 0), 0);
        x.leave();
    }

    private static void trap(HostedCalls x, int a, int b, int words, int sum) {
        x.enter(a);
        C.due("a list at an odd place", x.call(sum, words, 1), 5);
        C.due("its place", x.latest(1), 1);
        C.due("who is poisoned", x.latest(2), 0);
        C.due("nothing runs", x.depth(), 0);
        C.due("close a", x.close(a), 0);
        C.due("close b", x.close(b), 1);
    }

    /** So that the examples there and here can not part unseen. */
    private static void everyLineIsHere(String readme, String here) {
        boolean inExample = false;
        int lines = 0;
        for (String line : readme.split("\n")) {
            if (line.startsWith("```")) {
                inExample = line.equals("```java");
            } else if (inExample && !line.isEmpty()) {
                String statement = line.substring(0, line.indexOf(';'));
                C.due("it is tried: " + statement, here.contains(statement), true);
                lines++;
            }
        }
        C.due("there are examples", lines > 30, true);
    }
}

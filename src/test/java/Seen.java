import java.util.ArrayList;
import java.util.List;

/**
 * All that can be seen of an object after a run of calls. The run is gone through on a new object for each bundle of
 * questions, since an object is used for at most 512 calls.
 */
final class Seen {
    interface Run {
        void on(World w);
    }

    interface Call {
        long on(HostedCalls x);
    }

    private final Run run;
    private final List<String> answers = new ArrayList<>();

    private Seen(Run run) {
        this.run = run;
    }

    static List<String> after(Run run) {
        Seen seen = new Seen(run);
        for (int i = 0; i < 6; i++) {
            seen.instance(i);
        }
        seen.types();
        seen.restOfIt();
        seen.whatComesNext();
        return seen.answers;
    }

    static String answer(HostedCalls x, Call call) {
        try {
            return "" + call.on(x);
        } catch (RuntimeException e) {
            return "throws." + e.getClass().getSimpleName();
        }
    }

    private HostedCalls afterTheRun() {
        World w = new World();
        run.on(w);
        return w.x;
    }

    private void ask(HostedCalls x, String what, Call call) {
        answers.add(what + ": " + answer(x, call));
    }

    private void instance(int i) {
        HostedCalls x = afterTheRun();
        if (answer(x, y -> y.state(i, 0)).startsWith("throws")) {
            answers.add("no instance " + i);
            return;
        }
        for (int k = 0; k < 3; k++) {
            int what = k;
            ask(x, "state " + i + " " + what, y -> y.state(i, what));
        }
        for (int k = 0; k < 256; k++) {
            int at = k;
            ask(x, "byte " + i + " " + at, y -> y.read(i, at));
        }
        for (int k = 4; k < 68; k++) {
            int handle = k / 4;
            int what = k % 4;
            ask(x, "handle " + i + " " + handle + " " + what, y -> y.handle(i, handle, what));
        }
    }

    private void types() {
        HostedCalls x = afterTheRun();
        for (int k = 0; k < 33; k++) {
            int t = k;
            String parts = answer(x, y -> y.layout(t, 4));
            int whats = parts.startsWith("throws") ? 0 : 5 + Integer.parseInt(parts);
            for (int j = 0; j < whats; j++) {
                int what = j;
                ask(x, "layout " + t + " " + what, y -> y.layout(t, what));
            }
        }
    }

    private void restOfIt() {
        HostedCalls x = afterTheRun();
        ask(x, "depth", y -> y.depth());
        ask(x, "passed", y -> y.passed());
        for (int k = -1; k < 7; k++) {
            int level = k;
            ask(x, "level " + level, y -> y.level(level));
        }
        for (int k = 0; k < 4; k++) {
            int kind = k;
            ask(x, "living " + kind, y -> y.resources(kind, false));
            ask(x, "gone " + kind, y -> y.resources(kind, true));
        }
        for (int k = 0; k < 3; k++) {
            int what = k;
            ask(x, "latest " + what, y -> y.latest(what));
        }
    }

    /** The draft, the functions and the numbers that come next are seen by calls that change something. */
    private void whatComesNext() {
        ask(afterTheRun(), "next part", y -> y.part(0));
        ask(afterTheRun(), "next instance", y -> y.instance());
        ask(afterTheRun(), "next function", y -> y.function(0, 0, 0));
        ask(afterTheRun(), "next leave", y -> {
            y.leave();
            return 0;
        });
        ask(afterTheRun(), "next type", y -> y.type(9, 0));
        for (int k = 1; k < 11; k++) {
            int what = k;
            ask(afterTheRun(), "next type's layout " + what, y -> y.layout(y.type(9, 0), what));
        }
        ask(afterTheRun(), "next handle", y -> y.make(0));
        ask(afterTheRun(), "next resource", y -> y.handle(y.level(y.depth() - 1), y.make(0), 0));
        for (int k = 0; k < 13; k++) {
            int number = k;
            ask(afterTheRun(), "next back " + number, y -> y.back(number, 248));
            ask(afterTheRun(), "next call " + number, y -> y.call(number, World.FLAG, 248));
            ask(afterTheRun(), "next call with " + number, y -> y.call(0, number, 248));
        }
    }
}

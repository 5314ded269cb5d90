/** A value that is passed by a call (a to b) or as a result (b to a): what is said of passing holds for both. */
final class Passing {
    static final boolean[] WAYS = {false, true};

    final World w = new World();
    final HostedCalls x = w.x;
    final boolean asResult;
    final int from;
    final int to;
    private int function;

    Passing(boolean asResult) {
        this.asResult = asResult;
        from = asResult ? w.b : w.a;
        to = asResult ? w.a : w.b;
    }

    /** The sender runs, and the next value is passed as this type. */
    void begin(int u) {
        function = x.function(w.b, asResult ? World.FLAG : u, asResult ? u : World.FLAG);
        x.enter(w.a);
        if (asResult) {
            x.call(function, World.FLAG, 0);
        }
    }

    int pass(int t, int at) {
        return asResult ? x.back(t, at) : x.call(function, t, at);
    }

    void put(int at, int... bytes) {
        w.put(from, at, bytes);
    }

    /** Begins with the value's own type, lays bytes at the place, and passes them: the answer. */
    int passed(int t, int at, int... bytes) {
        begin(t);
        put(at, bytes);
        return pass(t, at);
    }

    String told(String what) {
        return what + (asResult ? " (as a result)" : " (by a call)");
    }

    /** No trap: the value lies at this place, the first one unless other values were passed before. */
    void arrived(Checks c, String what, int answer, int place) {
        c.due(told(what), answer, 0);
        c.due(told(what) + ": latest(2)", x.latest(2), HostedCalls.NONE);
        c.due(told(what) + ": passed()", x.passed(), place);
        c.due(told(what) + ": the top", x.level(x.depth() - 1), to);
    }

    void arrived(Checks c, String what, int answer) {
        arrived(c, what, answer, 128);
    }

    /** A trap, with all that it does to the two; it poisons the receiver for the codes 11 and 12, otherwise the sender. */
    void trapped(Checks c, String what, int answer, int code, int place) {
        int poisoned = code == 11 || code == 12 ? to : from;
        c.due(told(what), answer, code);
        w.latestIs(c, told(what), code, place, poisoned);
        for (int i = 0; i < 2; i++) {
            c.due(told(what) + ": state of " + i, x.state(i, 0), i == poisoned ? 2 : 0);
            c.due(told(what) + ": heap of " + i, x.state(i, 1), 128);
        }
        c.due(told(what) + ": depth", x.depth(), 0);
    }
}

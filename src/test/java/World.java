import java.util.Arrays;

/** A new object with what most tests need: a type of each kind, two instances, and short ways to fill a memory. */
final class World {
    static final int FLAG = 0, BYTE = 1, SHORT = 2, WORD = 3, LONG = 4, LETTER = 5, TEXT = 6;
    static final int CHOICE_3 = 7, CHOICE_9 = 8;
    static final int OWN_0 = 9, OWN_1 = 10, BORROW_0 = 11, BORROW_1 = 12;

    final HostedCalls x = new HostedCalls();
    final int a = x.instance();
    final int b = x.instance();

    World() {
        for (int kind = FLAG; kind <= TEXT; kind++) {
            x.type(kind, 0);
        }
        x.type(7, 3);
        x.type(7, 9);
        x.type(11, 0);
        x.type(11, 1);
        x.type(12, 0);
        x.type(12, 1);
    }

    int list(int part) {
        x.part(part);
        return x.type(8, 0);
    }

    int record(int... parts) {
        return ofParts(9, parts);
    }

    int variant(int... parts) {
        return ofParts(10, parts);
    }

    private int ofParts(int kind, int... parts) {
        for (int part : parts) {
            x.part(part);
        }
        return x.type(kind, 0);
    }

    /** Writes single bytes from a place on. */
    void put(int i, int at, int... bytes) {
        for (int k = 0; k < bytes.length; k++) {
            x.write(i, at + k, 1, bytes[k]);
        }
    }

    /** An instance makes resources of these kinds while nothing else runs. */
    void own(int i, int... kinds) {
        x.enter(i);
        for (int kind : kinds) {
            x.make(kind);
        }
        x.leave();
    }

    /** So many resources of one kind. */
    void ownMany(int i, int kind, int count) {
        int[] kinds = new int[count];
        Arrays.fill(kinds, kind);
        own(i, kinds);
    }

    /** A function of b that takes and gives values of these types. */
    int function(int argument, int result) {
        return x.function(b, argument, result);
    }

    /** Enters a, and calls a new function of b with the value at a place: the answer. */
    int callWith(int t, int at) {
        return callWith(t, t, at);
    }

    int callWith(int t, int u, int at) {
        int f = function(u, FLAG);
        if (x.depth() == 0) {
            x.enter(a);
        }
        return x.call(f, t, at);
    }

    void memoryIs(Checks c, String what, int i, int at, int... bytes) {
        for (int k = 0; k < bytes.length; k++) {
            c.due(what + ": read(" + i + ", " + (at + k) + ")", x.read(i, at + k), bytes[k]);
        }
    }

    void latestIs(Checks c, String what, int code, int place, int poisoned) {
        c.due(what + ": latest(0)", x.latest(0), code);
        c.due(what + ": latest(1)", x.latest(1), place);
        c.due(what + ": latest(2)", x.latest(2), poisoned);
    }

    /** A handle that is in use, or (resource NONE) one that is not. */
    void handleIs(Checks c, String what, int i, int h, int... due) {
        for (int k = 0; k < 4; k++) {
            c.due(what + ": handle(" + i + ", " + h + ", " + k + ")", x.handle(i, h, k),
                    due.length == 0 ? HostedCalls.NONE : due[k]);
        }
    }
}

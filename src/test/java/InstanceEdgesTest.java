/** The edges of instances, functions and the stack: promises 1, 6 to 11 and 18 to 21. Each method tests one sentence. */
public final class InstanceEdgesTest {
    private static final Checks C = new Checks();
    private static final int LEAST = Integer.MIN_VALUE;
    private static final int MOST = Integer.MAX_VALUE;
    /** In a World the instances 0 and 1 are there. */
    private static final int[] NO_INSTANCES = {LEAST, -6, -1, 2, 3, 5, 6, 256, 65536, MOST};
    private static final int[] NO_PLACES = {LEAST, -256, -8, -1, 256, 257, 512, 65535, MOST - 7, MOST};

    public static void main(String[] args) {
        nothingIsThereAtFirst();
        atMostSixInstances();
        memoryIsNoughtAtFirst();
        functionOfNoInstance();
        functionOfNoType();
        functionWithABorrowInTheResult();
        atMostTwelveFunctions();
        writeToNoInstance();
        writeOfOneToEightBytes();
        writeAtNoPlace();
        writeUpToTheLastByte();
        writeOfTheGreatestNumbers();
        readOfNoInstance();
        readAtNoPlace();
        enterNoInstance();
        enterWhileOneRuns();
        enterOneThatIsNotReady();
        enterAsTheOnlyOne();
        leaveWithNone();
        leaveWithTwo();
        leaveWithSix();
        leaveMakesTheHeap128();
        passedIsNoneAtFirst();
        passedIsNoneOnAnEmptyStack();
        passedIsThatOfTheTop();
        depthIsNoughtToSix();
        levelThatIsNotThere();
        stateOfNoInstance();
        stateOfNoSuchWhat();
        statesAreNoughtToThree();
        stateCountsHandles();
        C.end();
    }

    private static void nothingIsThereAtFirst() {
        C.sentence("Promise 1: No types, instances, functions or resources; nothing runs");
        HostedCalls x = new HostedCalls();
        C.refused("no type", Checks.ARGUMENT, () -> x.layout(0, 0));
        C.refused("no draft", Checks.ARGUMENT, () -> x.type(9, 0));
        C.refused("no instance", Checks.ARGUMENT, () -> x.state(0, 0));
        C.due("nothing runs", x.depth(), 0);
        C.due("no level", x.level(0), HostedCalls.NONE);
        C.due("nothing was passed", x.passed(), HostedCalls.NONE);
        C.due("no trap's code", x.latest(0), 0);
        C.due("no trap's place", x.latest(1), 0);
        C.due("no trap's instance", x.latest(2), HostedCalls.NONE);
        for (int kind = 0; kind < 4; kind++) {
            C.due("no resource", x.resources(kind, false), 0);
            C.due("none destroyed", x.resources(kind, true), 0);
        }
        int i = x.instance();
        x.enter(i);
        C.refused("no function", Checks.ARGUMENT, () -> x.call(0, x.type(0, 0), 0));
        C.due("the first resource is 0", x.handle(i, x.make(3), 0), 0);
        HostedCalls other = new HostedCalls();
        C.due("objects share nothing", other.depth() + other.resources(3, false), 0);
        C.refused("nor instances", Checks.ARGUMENT, () -> other.state(0, 0));
    }

    private static void atMostSixInstances() {
        C.sentence("INSTANCES 0, 1, .. (at most 6); IllegalStateException: there are 6");
        HostedCalls x = new HostedCalls();
        for (int i = 0; i < 6; i++) {
            C.due("instance", x.instance(), i);
        }
        C.refused("a seventh", Checks.STATE, x::instance);
        x.close(3);
        C.refused("a seventh when one is closed", Checks.STATE, x::instance);
        C.due("the sixth is there", x.state(5, 0), 0);
        C.refused("a seventh is not", Checks.ARGUMENT, () -> x.state(6, 0));
    }

    private static void memoryIsNoughtAtFirst() {
        C.sentence("a MEMORY of the bytes 0 .. 255 (all 0 at first), HANDLES 1 .. 16 (none in use at first), a HEAP");
        for (int i = 0; i < 6; i++) {
            HostedCalls x = new HostedCalls();
            for (int k = 0; k <= i; k++) {
                x.instance();
            }
            for (int at = 0; at < 256; at++) {
                C.due("byte " + at, x.read(i, at), 0);
            }
            for (int h = 1; h <= 16; h++) {
                C.due("handle " + h, x.handle(i, h, 0), HostedCalls.NONE);
            }
            C.due("ready", x.state(i, 0), 0);
            C.due("heap", x.state(i, 1), 128);
            C.due("handles in use", x.state(i, 2), 0);
        }
    }

    private static void functionOfNoInstance() {
        C.sentence("Promise 7: IllegalArgumentException: there is no such instance");
        for (int i : NO_INSTANCES) {
            C.refused("instance " + i, Checks.ARGUMENT, () -> new World().x.function(i, 0, 0));
        }
    }

    private static void functionOfNoType() {
        C.sentence("Promise 7: IllegalArgumentException: there is no such .. type");
        for (int t : new int[] {LEAST, -1, 13, 31, 32, MOST}) {
            C.refused("argument " + t, Checks.ARGUMENT, () -> new World().x.function(0, t, 0));
            C.refused("result " + t, Checks.ARGUMENT, () -> new World().x.function(0, 0, t));
        }
        C.due("the last type", new World().x.function(1, 12, 10), 0);
    }

    private static void functionWithABorrowInTheResult() {
        C.sentence("Promise 7: UnsupportedOperationException: there is a borrow anywhere in the result");
        World w = new World();
        int[] good = {World.OWN_0, w.list(World.OWN_1), w.record(World.OWN_0, World.FLAG), w.variant(World.OWN_1)};
        for (int result : good) {
            C.due("no borrow in " + result, w.x.function(w.a, World.BORROW_0, result) >= 0, true);
        }
        int[] bad = {World.BORROW_0, World.BORROW_1, w.list(World.BORROW_0), w.record(World.BORROW_1),
            w.variant(World.BORROW_0), w.record(0, 0, 0, 0, 0, World.BORROW_0), w.record(World.BORROW_0, 0),
            w.variant(0, 0, 0, 0, 0, World.BORROW_1), w.variant(World.BORROW_1, 0)};
        for (int result : bad) {
            C.refused("a borrow in " + result, Checks.UNSUPPORTED, () -> w.x.function(w.a, 0, result));
        }
        int deepest = w.record(0, w.list(w.variant(0, w.list(World.BORROW_0))));
        C.refused("a borrow 5 deep", Checks.UNSUPPORTED, () -> w.x.function(w.a, 0, deepest));
        C.due("in an argument it may be", w.x.function(w.a, deepest, 0), good.length);
    }

    private static void atMostTwelveFunctions() {
        C.sentence("FUNCTIONS 0, 1, .. (at most 12); IllegalStateException: there are 12");
        World w = new World();
        for (int f = 0; f < 12; f++) {
            C.due("function", w.x.function(f % 2, f, World.FLAG), f);
        }
        C.refused("a 13th of a", Checks.STATE, () -> w.x.function(w.a, 0, 0));
        C.refused("a 13th of b", Checks.STATE, () -> w.x.function(w.b, 12, 10));
        w.x.enter(w.a);
        C.due("the 12th can be called", w.x.call(11, 11, 0), 6);
        w.x.enter(w.b);
        C.refused("a 13th can not", Checks.ARGUMENT, () -> w.x.call(12, 0, 0));
    }

    private static void writeToNoInstance() {
        C.sentence("Promise 8: IllegalArgumentException: there is no such instance");
        for (int i : NO_INSTANCES) {
            C.refused("instance " + i, Checks.ARGUMENT, () -> new World().x.write(i, 0, 1, 1));
        }
    }

    private static void writeOfOneToEightBytes() {
        C.sentence("Promise 8: IllegalArgumentException: .. or n is not 1 .. 8");
        for (int n : new int[] {LEAST, -8, -1, 0, 9, 10, 256, 65537, MOST}) {
            C.refused(n + " bytes", Checks.ARGUMENT, () -> new World().x.write(0, 100, n, -1));
            C.refused(n + " bytes at the end", Checks.ARGUMENT, () -> new World().x.write(0, 255, n, -1));
        }
        for (int n = 1; n <= 8; n++) {
            World w = new World();
            w.x.write(w.b, 100, n, -1);
            for (int k = -1; k <= 8; k++) {
                C.due("byte " + k + " of " + n, w.x.read(w.b, 100 + k), k >= 0 && k < n ? 255 : 0);
            }
        }
    }

    private static void writeAtNoPlace() {
        C.sentence("Promise 8: IndexOutOfBoundsException: at is not 0 .. 255");
        for (int at : NO_PLACES) {
            for (int n = 1; n <= 8; n++) {
                int count = n;
                C.refused(n + " bytes at " + at, Checks.BOUNDS, () -> new World().x.write(0, at, count, 7));
            }
        }
    }

    private static void writeUpToTheLastByte() {
        C.sentence("The bytes from a place on .. as many as there are up to byte 255, at most n");
        for (int at : new int[] {0, 1, 127, 128, 247, 248, 249, 250, 251, 252, 253, 254, 255}) {
            for (int n = 1; n <= 8; n++) {
                World w = new World();
                w.x.write(w.a, at, n, 0x0807060504030201L);
                for (int k = 0; k < 256; k++) {
                    boolean written = k >= at && k < at + n;
                    C.due(n + " bytes at " + at + ": byte " + k, w.x.read(w.a, k), written ? k - at + 1 : 0);
                }
                C.due("nothing in the other one", w.x.read(w.b, at), 0);
            }
        }
    }

    private static void writeOfTheGreatestNumbers() {
        C.sentence("become those of w, the lowest first (the least and the greatest long)");
        World w = new World();
        w.x.write(w.a, 0, 8, Long.MIN_VALUE);
        w.memoryIs(C, "the least", w.a, 0, 0, 0, 0, 0, 0, 0, 0, 128, 0);
        w.x.write(w.a, 0, 8, Long.MAX_VALUE);
        w.memoryIs(C, "the greatest", w.a, 0, 255, 255, 255, 255, 255, 255, 255, 127, 0);
        w.x.write(w.a, 0, 8, -2);
        w.memoryIs(C, "-2", w.a, 0, 254, 255, 255, 255, 255, 255, 255, 255, 0);
        w.x.write(w.a, 0, 1, 0xFFFFFFFFFFFFFF00L);
        w.memoryIs(C, "one byte of 256 less", w.a, 0, 0, 255);
        w.x.write(w.a, 4, 4, 0x1234567800000000L);
        w.memoryIs(C, "the low four are 0", w.a, 0, 0, 255, 255, 255, 0, 0, 0, 0, 0);
    }

    private static void readOfNoInstance() {
        C.sentence("Promise 9: IllegalArgumentException: there is no such instance");
        for (int i : NO_INSTANCES) {
            C.refused("instance " + i, Checks.ARGUMENT, () -> new World().x.read(i, 0));
        }
    }

    private static void readAtNoPlace() {
        C.sentence("Promise 9: IndexOutOfBoundsException: at is not 0 .. 255");
        for (int at : NO_PLACES) {
            C.refused("at " + at, Checks.BOUNDS, () -> new World().x.read(1, at));
        }
        World w = new World();
        w.x.write(w.a, 0, 1, 200);
        w.x.write(w.a, 255, 1, 201);
        C.due("the first byte", w.x.read(w.a, 0), 200);
        C.due("the last byte", w.x.read(w.a, 255), 201);
    }

    private static void enterNoInstance() {
        C.sentence("Promise 10: IllegalArgumentException: there is no such instance");
        for (int i : NO_INSTANCES) {
            C.refused("instance " + i, Checks.ARGUMENT, () -> new World().x.enter(i));
        }
    }

    private static void enterWhileOneRuns() {
        C.sentence("Promise 10: IllegalStateException: the stack is not empty");
        World w = new World();
        w.x.enter(w.a);
        C.refused("another one", Checks.STATE, () -> w.x.enter(w.b));
        C.refused("itself", Checks.STATE, () -> w.x.enter(w.a));
        int third = w.x.instance();
        w.callWith(World.BYTE, 0);
        C.refused("a third one", Checks.STATE, () -> w.x.enter(third));
    }

    private static void enterOneThatIsNotReady() {
        C.sentence("Promise 10: IllegalStateException: .. or the instance not ready");
        World w = new World();
        w.x.close(w.a);
        C.refused("a closed one", Checks.STATE, () -> w.x.enter(w.a));
        w.x.enter(w.b);
        w.x.trap();
        C.refused("a poisoned one", Checks.STATE, () -> w.x.enter(w.b));
        w.x.close(w.b);
        C.refused("poisoned, then closed", Checks.STATE, () -> w.x.enter(w.b));
    }

    private static void enterAsTheOnlyOne() {
        C.sentence("An instance begins to run, as the only one on the stack");
        for (int i = 0; i < 6; i++) {
            HostedCalls x = new HostedCalls();
            for (int k = 0; k < 6; k++) {
                x.instance();
            }
            x.enter(i);
            C.due("depth", x.depth(), 1);
            C.due("the top", x.level(0), i);
            for (int k = 0; k < 6; k++) {
                C.due("state of " + k, x.state(k, 0), k == i ? 1 : 0);
            }
            x.leave();
            C.due("ready again", x.state(i, 0), 0);
            x.enter(i);
            C.due("it may run again", x.level(0), i);
        }
    }

    private static void leaveWithNone() {
        C.sentence("Promise 11: IllegalStateException: there is not just one (none)");
        C.refused("a new object", Checks.STATE, () -> new HostedCalls().leave());
        World w = new World();
        w.x.enter(w.a);
        w.x.leave();
        C.refused("twice", Checks.STATE, w.x::leave);
        w.x.enter(w.a);
        w.x.trap();
        C.refused("after a trap", Checks.STATE, w.x::leave);
    }

    private static void leaveWithTwo() {
        C.sentence("Promise 11: IllegalStateException: there is not just one (two)");
        World w = new World();
        C.due("call", w.callWith(World.FLAG, 0), 0);
        C.refused("leave", Checks.STATE, w.x::leave);
        C.due("back", w.x.back(World.FLAG, 0), 0);
        w.x.leave();
        C.due("with one it may", w.x.depth(), 0);
    }

    /** All six instances on the stack, each called by the one before. */
    private static World stackOfSix() {
        World w = new World();
        for (int i = 2; i < 6; i++) {
            w.x.instance();
        }
        for (int i = 0; i < 6; i++) {
            w.x.function(i, World.FLAG, World.FLAG);
        }
        w.x.enter(0);
        for (int i = 1; i < 6; i++) {
            C.due("call", w.x.call(i, World.FLAG, 0), 0);
        }
        return w;
    }

    private static void leaveWithSix() {
        C.sentence("Promise 11: IllegalStateException: there is not just one (six)");
        World w = stackOfSix();
        for (int depth = 6; depth > 1; depth--) {
            C.refused("depth " + depth, Checks.STATE, w.x::leave);
            C.due("back", w.x.back(World.FLAG, 0), 0);
        }
        w.x.leave();
        C.due("with one it may", w.x.state(0, 0), 0);
    }

    private static void leaveMakesTheHeap128() {
        C.sentence("The only instance on the stack is ready again, its heap 128, and the stack empty");
        World w = new World();
        w.callWith(World.FLAG, 0);
        w.x.back(World.FLAG, 0);
        C.due("heap before", w.x.state(w.a, 1), 129);
        w.x.leave();
        C.due("heap", w.x.state(w.a, 1), 128);
        C.due("ready", w.x.state(w.a, 0), 0);
        C.due("empty", w.x.depth(), 0);
        w.x.enter(w.a);
        w.x.call(0, World.FLAG, 0);
        w.x.back(World.FLAG, 0);
        C.due("the next value lies where the first one did", w.x.passed(), 128);
    }

    private static void passedIsNoneAtFirst() {
        C.sentence("Promise 18: NONE when none was");
        World w = new World();
        w.x.enter(w.a);
        C.due("nothing was passed", w.x.passed(), HostedCalls.NONE);
        w.callWith(World.FLAG, 0);
        w.x.back(World.FLAG, 0);
        C.due("now something was", w.x.passed(), 128);
        w.x.leave();
        w.x.enter(w.a);
        C.due("but not since it began to run anew", w.x.passed(), HostedCalls.NONE);
    }

    private static void passedIsNoneOnAnEmptyStack() {
        C.sentence("Promise 18: .. or the stack is empty");
        World w = new World();
        C.due("at first", w.x.passed(), HostedCalls.NONE);
        w.callWith(World.FLAG, 0);
        w.x.back(World.FLAG, 0);
        w.x.leave();
        C.due("after leave", w.x.passed(), HostedCalls.NONE);
        w.callWith(World.FLAG, 0);
        w.x.trap();
        C.due("after a trap", w.x.passed(), HostedCalls.NONE);
    }

    private static void passedIsThatOfTheTop() {
        C.sentence("Promise 18: Where in the top's memory the value lies that was passed to it last");
        World w = new World();
        int third = w.x.instance();
        int f = w.function(World.LONG, World.SHORT);
        int g = w.x.function(third, World.FLAG, World.LONG);
        w.x.enter(w.a);
        w.x.call(f, World.LONG, 0);
        w.x.call(g, World.FLAG, 0);
        C.due("the third one's argument", w.x.passed(), 128);
        w.x.back(World.LONG, 0);
        C.due("b's result from it", w.x.passed(), 136);
        w.x.call(g, World.FLAG, 0);
        C.due("the third one's argument again", w.x.passed(), 128);
        w.x.back(World.LONG, 0);
        C.due("b's second result", w.x.passed(), 144);
        w.x.back(World.SHORT, 0);
        C.due("a's result", w.x.passed(), 128);
        w.x.call(f, World.LONG, 0);
        C.due("b's new argument", w.x.passed(), 128);
    }

    private static void depthIsNoughtToSix() {
        C.sentence("Promise 19: How many are on the stack");
        World w = new World();
        C.due("none", w.x.depth(), 0);
        World six = stackOfSix();
        for (int depth = 6; depth > 1; depth--) {
            C.due("depth", six.x.depth(), depth);
            six.x.back(World.FLAG, 0);
        }
        C.due("one", six.x.depth(), 1);
        six.x.leave();
        C.due("none", six.x.depth(), 0);
    }

    private static void levelThatIsNotThere() {
        C.sentence("Promise 20: NONE when there is no such level");
        int[] none = {LEAST, -7, -1, 6, 7, 256, 65536, MOST};
        World w = stackOfSix();
        for (int k = 0; k < 6; k++) {
            C.due("level " + k, w.x.level(k), k);
        }
        for (int k : none) {
            C.due("level " + k, w.x.level(k), HostedCalls.NONE);
        }
        w.x.back(World.FLAG, 0);
        C.due("the level that has ended", w.x.level(5), HostedCalls.NONE);
        C.due("the level below", w.x.level(4), 4);
        w.x.trap();
        for (int k = -1; k < 7; k++) {
            C.due("level " + k + " of an empty stack", w.x.level(k), HostedCalls.NONE);
        }
    }

    private static void stateOfNoInstance() {
        C.sentence("Promise 21: IllegalArgumentException: there is no such instance");
        for (int i : NO_INSTANCES) {
            for (int what = 0; what < 3; what++) {
                int asked = what;
                C.refused("instance " + i, Checks.ARGUMENT, () -> new World().x.state(i, asked));
            }
        }
    }

    private static void stateOfNoSuchWhat() {
        C.sentence("Promise 21: IllegalArgumentException: there is no such .. what");
        for (int what : new int[] {LEAST, -1, 3, 4, 256, MOST}) {
            C.refused("what " + what, Checks.ARGUMENT, () -> new World().x.state(0, what));
        }
    }

    private static void statesAreNoughtToThree() {
        C.sentence("Promise 21: its state (0 ready, 1 running, 2 poisoned, 3 closed), its heap");
        World w = new World();
        C.due("ready", w.x.state(w.b, 0), 0);
        w.callWith(World.LONG, 0);
        C.due("running, the first", w.x.state(w.a, 0), 1);
        C.due("running, the top", w.x.state(w.b, 0), 1);
        C.due("heap of the first", w.x.state(w.a, 1), 128);
        C.due("heap of the top", w.x.state(w.b, 1), 136);
        w.x.trap();
        C.due("poisoned", w.x.state(w.b, 0), 2);
        w.x.close(w.b);
        C.due("closed", w.x.state(w.b, 0), 3);
        C.due("heap", w.x.state(w.b, 1), 128);
    }

    private static void stateCountsHandles() {
        C.sentence("Promise 21: 2 how many handles are in use");
        World w = new World();
        int pair = w.record(World.BORROW_0, World.OWN_1);
        w.x.enter(w.a);
        for (int h = 1; h <= 16; h++) {
            w.x.make(h % 2);
            C.due("made", w.x.state(w.a, 2), h);
        }
        w.put(w.a, 0, 2, 1);
        C.due("call", w.callWith(pair, 0), 0);
        C.due("one is moved", w.x.state(w.a, 2), 15);
        C.due("owned and lent ones count", w.x.state(w.b, 2), 2);
        w.x.drop(1);
        C.due("one is dropped", w.x.state(w.b, 2), 1);
        w.x.back(World.FLAG, 128 + 8);
        C.due("the other one is owned", w.x.state(w.b, 2), 1);
    }
}

/** Promises 17 and 24, and what every trap does. */
public final class TrapTest {
    private static final Checks C = new Checks();

    public static void main(String[] args) {
        latestIsNoneAtFirst();
        trapPoisonsTheTop();
        trapEndsAllCalls();
        trapUndoesWhatWasTaken();
        latestIsTheLatest();
        C.end();
    }

    private static void latestIsNoneAtFirst() {
        World w = new World();
        w.latestIs(C, "at first", 0, 0, HostedCalls.NONE);
        C.refused("what 3", Checks.ARGUMENT, () -> w.x.latest(3));
        C.refused("what -1", Checks.ARGUMENT, () -> w.x.latest(-1));
        C.refused("trap of nothing", Checks.STATE, w.x::trap);
        w.latestIs(C, "what throws is no trap", 0, 0, HostedCalls.NONE);
    }

    private static void trapPoisonsTheTop() {
        World w = new World();
        w.x.enter(w.a);
        w.x.trap();
        w.latestIs(C, "by itself", 13, 0, w.a);
        C.due("a is poisoned", w.x.state(w.a, 0), 2);
        C.due("b is as before", w.x.state(w.b, 0), 0);
        C.due("the stack is empty", w.x.depth(), 0);
        C.due("passed", w.x.passed(), HostedCalls.NONE);
    }

    private static void trapEndsAllCalls() {
        World w = new World();
        int third = w.x.instance();
        int idle = w.x.instance();
        w.x.close(idle);
        int f = w.function(w.record(World.BORROW_0, World.OWN_1), World.FLAG);
        int g = w.x.function(third, World.BORROW_0, World.FLAG);
        w.x.enter(w.a);
        w.x.make(0);
        w.x.make(1);
        w.put(w.a, 0, 1, 2);
        w.x.call(f, 13, 0);
        w.put(w.b, 0, 1);
        w.x.call(g, World.BORROW_0, 0);
        w.x.make(2);
        w.x.trap();
        w.latestIs(C, "the top", 13, 0, third);
        int[] states = {0, 0, 2, 3};
        for (int i = 0; i < 4; i++) {
            C.due("state of " + i, w.x.state(i, 0), states[i]);
            C.due("heap of " + i, w.x.state(i, 1), 128);
        }
        w.handleIs(C, "a's has no loan", w.a, 1, 0, 0, 1, 0);
        w.handleIs(C, "what was moved before is moved", w.a, 2);
        w.handleIs(C, "b's lent one", w.b, 1);
        w.handleIs(C, "b's owned one", w.b, 2, 1, 1, 1, 0);
        w.handleIs(C, "the third one's lent one", third, 1);
        w.handleIs(C, "the third one's owned one", third, 2, 2, 2, 1, 0);
        w.memoryIs(C, "bytes stay", w.b, 128, 1, 2);
        w.x.enter(w.a);
        C.due("a runs again, and can drop", w.x.drop(1), true);
    }

    private static void trapUndoesWhatWasTaken() {
        World w = new World();
        int t = w.record(World.OWN_0, World.BORROW_1, World.FLAG);
        w.x.enter(w.a);
        w.x.make(0);
        w.x.make(1);
        w.put(w.a, 0, 1, 2, 9);
        C.due("call", w.callWith(t, 0), 2);
        w.latestIs(C, "call", 2, 2, w.a);
        w.handleIs(C, "owned as before", w.a, 1, 0, 0, 1, 0);
        w.handleIs(C, "without loans", w.a, 2, 1, 1, 1, 0);
        C.due("in use", w.x.state(w.a, 2), 2);
        C.due("b has none", w.x.state(w.b, 2), 0);
        C.due("nothing is gone", w.x.resources(0, true) + w.x.resources(1, true), 0);
        C.due("close a", w.x.close(w.a), 2);
    }

    private static void latestIsTheLatest() {
        World w = new World();
        int f = w.function(World.BYTE, World.BYTE);
        w.x.enter(w.a);
        w.x.call(f, World.BYTE, -3);
        w.latestIs(C, "first", 1, -3, w.a);
        w.x.enter(w.b);
        w.latestIs(C, "it stays", 1, -3, w.a);
        w.x.trap();
        w.latestIs(C, "second", 13, 0, w.b);
    }
}

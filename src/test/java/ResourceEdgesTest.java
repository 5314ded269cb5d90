import java.lang.reflect.Field;

/** The edges of resources and handles: promises 12 to 14, 22 and 23. Each method tests one sentence. */
public final class ResourceEdgesTest {
    private static final Checks C = new Checks();
    private static final int LEAST = Integer.MIN_VALUE;
    private static final int MOST = Integer.MAX_VALUE;
    private static final int[] NO_KINDS = {LEAST, -4, -1, 4, 5, 256, 65536, MOST};
    private static final int[] NO_HANDLES = {LEAST, -16, -1, 0, 17, 18, 32, 256 + 1, 65537, MOST};

    public static void main(String[] args) throws ReflectiveOperationException {
        makeOnAnEmptyStack();
        makeOfNoKind();
        makeWithAllHandlesInUse();
        makeUsesTheLowestHandle();
        makeCountsResources();
        fiveHundredTwelveCalls();
        dropOnAnEmptyStack();
        dropOfNoHandle();
        dropOfOneNotInUse();
        dropOfOneWithLoans();
        dropOfOneThatWasLent();
        dropDestroysWhatIsOwned();
        dropEndsALoan();
        handleOfNoInstance();
        handleOfNoSuchNumber();
        handleOfNoSuchWhat();
        handleNotInUse();
        handleOwnedAndLent();
        handleCountsLoans();
        closeOfNoInstance();
        closeOfOneThatRuns();
        closeOfOneThatIsClosed();
        closeOfOneThatIsPoisoned();
        closeDestroysWhatItOwns();
        closeCountsFromNoneToSixteen();
        resourcesOfNoKind();
        resourcesAreCountedByKind();
        C.end();
    }

    private static void makeOnAnEmptyStack() {
        C.sentence("Promise 12: IllegalStateException: the stack is empty");
        World w = new World();
        C.refused("at first", Checks.STATE, () -> w.x.make(0));
        w.x.enter(w.a);
        w.x.leave();
        C.refused("after leave", Checks.STATE, () -> w.x.make(0));
        w.x.enter(w.a);
        w.x.trap();
        C.refused("after a trap", Checks.STATE, () -> w.x.make(0));
    }

    private static void makeOfNoKind() {
        C.sentence("Promise 12: IllegalArgumentException: there is no such kind");
        World w = new World();
        w.x.enter(w.a);
        for (int kind : NO_KINDS) {
            C.refused("kind " + kind, Checks.ARGUMENT, () -> w.x.make(kind));
        }
        for (int kind = 0; kind < 4; kind++) {
            C.due("kind " + kind, w.x.handle(w.a, w.x.make(kind), 1), kind);
        }
    }

    private static void makeWithAllHandlesInUse() {
        C.sentence("Promise 12: UnsupportedOperationException: all handles are in use");
        World w = new World();
        w.x.enter(w.a);
        for (int h = 1; h <= 16; h++) {
            C.due("make", w.x.make(0), h);
        }
        for (int kind = 0; kind < 4; kind++) {
            int another = kind;
            C.refused("a 17th of kind " + kind, Checks.UNSUPPORTED, () -> w.x.make(another));
        }
        w.x.drop(16);
        C.due("the 16th again", w.x.make(1), 16);
        World v = new World();
        v.ownMany(v.b, 0, 15);
        v.own(v.a, 0);
        v.put(v.a, 0, 1);
        C.due("call", v.callWith(World.BORROW_0, 0), 0);
        C.refused("lent ones are in use, too", Checks.UNSUPPORTED, () -> v.x.make(0));
    }

    private static void makeUsesTheLowestHandle() {
        C.sentence("Promise 12: the lowest handle not in use, by which it owns it");
        for (int free = 1; free <= 16; free++) {
            World w = new World();
            w.ownMany(w.a, 0, 16);
            w.x.enter(w.a);
            w.x.drop(free);
            if (free != 16) {
                w.x.drop(16);
            }
            C.due("the lowest", w.x.make(3), free);
            w.handleIs(C, "the new one", w.a, free, 16, 3, 1, 0);
        }
    }

    private static void makeCountsResources() {
        C.sentence("a RESOURCE (0, 1, .. as they are made), which is of a resource kind");
        World w = new World();
        for (int k = 0; k < 40; k++) {
            int i = k % 2;
            w.x.enter(i);
            w.handleIs(C, "resource " + k, i, w.x.make(k % 4), k, k % 4, 1, 0);
            w.x.drop(1);
            w.x.leave();
        }
    }

    private static void fiveHundredTwelveCalls() {
        C.sentence("An object is used for at most 512 calls after it has been made");
        HostedCalls x = new HostedCalls();
        int i = x.instance();
        x.enter(i);
        for (int k = 0; k < 254; k++) {
            C.due("make", x.make(2), 1);
            C.due("drop", x.drop(1), true);
        }
        C.due("the 511th call", x.make(2), 1);
        C.due("the 512th call", x.handle(i, 1, 0), 254);
    }

    private static void dropOnAnEmptyStack() {
        C.sentence("Promise 13: IllegalStateException: the stack is empty");
        World w = new World();
        w.own(w.a, 0);
        C.refused("nothing runs", Checks.STATE, () -> w.x.drop(1));
        w.handleIs(C, "it is there still", w.a, 1, 0, 0, 1, 0);
    }

    private static void dropOfNoHandle() {
        C.sentence("Promise 13: NoSuchElementException: it is not in use (no such handle)");
        World w = new World();
        w.ownMany(w.a, 0, 16);
        w.x.enter(w.a);
        for (int handle : NO_HANDLES) {
            C.refused("handle " + handle, Checks.NO_ELEMENT, () -> w.x.drop(handle));
        }
        C.due("the first", w.x.drop(1), true);
        C.due("the last", w.x.drop(16), true);
    }

    private static void dropOfOneNotInUse() {
        C.sentence("Promise 13: NoSuchElementException: it is not in use");
        World w = new World();
        w.own(w.b, 0, 0);
        w.x.enter(w.a);
        for (int h = 1; h <= 16; h++) {
            int handle = h;
            C.refused("handle " + h, Checks.NO_ELEMENT, () -> w.x.drop(handle));
        }
        w.x.make(0);
        w.x.drop(1);
        C.refused("dropped before", Checks.NO_ELEMENT, () -> w.x.drop(1));
        w.x.make(0);
        w.put(w.a, 0, 1);
        w.callWith(World.OWN_0, 0);
        w.x.drop(3);
        C.refused("moved and dropped", Checks.NO_ELEMENT, () -> w.x.drop(3));
        w.x.back(World.FLAG, 9);
        C.refused("moved away", Checks.NO_ELEMENT, () -> w.x.drop(1));
    }

    /** No run of calls comes to a top whose handle has loans, since they end with the call: so a loan is set by hand. */
    private static void dropOfOneWithLoans() throws ReflectiveOperationException {
        C.sentence("Promise 13: UnsupportedOperationException: it has loans");
        World w = new World();
        w.x.enter(w.a);
        w.x.make(0);
        Object instance = ((Object[]) field(w.x, "instances"))[w.a];
        Object handle = ((Object[]) field(instance, "handles"))[0];
        Field loans = handle.getClass().getDeclaredField("loans");
        loans.setAccessible(true);
        loans.setInt(handle, 1);
        C.refused("it has a loan", Checks.UNSUPPORTED, () -> w.x.drop(1));
        w.handleIs(C, "it is there still", w.a, 1, 0, 0, 1, 1);
        loans.setInt(handle, 0);
        C.due("it has none", w.x.drop(1), true);
    }

    private static Object field(Object of, String name) throws ReflectiveOperationException {
        Field field = of.getClass().getDeclaredField(name);
        field.setAccessible(true);
        return field.get(of);
    }

    private static void dropOfOneThatWasLent() {
        C.sentence("Promise 13: it has loans (those of a call that has ended are none)");
        World w = new World();
        w.own(w.a, 0);
        w.put(w.a, 0, 1);
        w.callWith(World.BORROW_0, 0);
        C.due("it has a loan", w.x.handle(w.a, 1, 3), 1);
        w.x.back(World.FLAG, 9);
        C.due("it has none then", w.x.handle(w.a, 1, 3), 0);
        C.due("and can be dropped", w.x.drop(1), true);
    }

    private static void dropDestroysWhatIsOwned() {
        C.sentence("Promise 13: if it owns the resource, that is destroyed; Answers whether it was owned");
        World w = new World();
        w.x.enter(w.a);
        for (int kind = 0; kind < 4; kind++) {
            w.x.make(kind);
        }
        for (int kind = 0; kind < 4; kind++) {
            C.due("owned", w.x.drop(kind + 1), true);
            C.due("gone", w.x.resources(kind, true), 1);
            C.due("there is none", w.x.resources(kind, false), 0);
            w.handleIs(C, "not in use", w.a, kind + 1);
        }
    }

    private static void dropEndsALoan() {
        C.sentence("Promise 13: if it is lent, the loan ends");
        World w = new World();
        int twice = w.record(World.BORROW_0, World.BORROW_0);
        w.own(w.a, 0);
        w.put(w.a, 0, 1, 1);
        w.callWith(twice, 0);
        C.due("lent", w.x.drop(2), false);
        w.handleIs(C, "one loan is left", w.a, 1, 0, 0, 1, 1);
        w.handleIs(C, "the dropped one", w.b, 2);
        w.handleIs(C, "the other one", w.b, 1, 0, 0, 0, 0);
        C.due("lent", w.x.drop(1), false);
        w.handleIs(C, "no loan is left", w.a, 1, 0, 0, 1, 0);
        C.due("nothing is gone", w.x.resources(0, true), 0);
        C.due("it is there", w.x.resources(0, false), 1);
        w.x.make(0);
        w.x.back(World.FLAG, 9);
        w.handleIs(C, "the end of the call ends no loan twice", w.a, 1, 0, 0, 1, 0);
        w.handleIs(C, "what b made is b's", w.b, 1, 1, 0, 1, 0);
    }

    private static void handleOfNoInstance() {
        C.sentence("Promise 14: IllegalArgumentException: there is no such instance");
        for (int i : new int[] {LEAST, -1, 2, 5, 6, 256, MOST}) {
            C.refused("instance " + i, Checks.ARGUMENT, () -> new World().x.handle(i, 1, 0));
        }
    }

    private static void handleOfNoSuchNumber() {
        C.sentence("Promise 14: IllegalArgumentException: there is no such .. handle");
        World w = new World();
        w.ownMany(w.a, 2, 16);
        for (int handle : NO_HANDLES) {
            for (int what = 0; what < 4; what++) {
                int asked = what;
                C.refused("handle " + handle, Checks.ARGUMENT, () -> w.x.handle(w.a, handle, asked));
            }
        }
        w.handleIs(C, "the first", w.a, 1, 0, 2, 1, 0);
        w.handleIs(C, "the last", w.a, 16, 15, 2, 1, 0);
    }

    private static void handleOfNoSuchWhat() {
        C.sentence("Promise 14: IllegalArgumentException: there is no such .. what");
        World w = new World();
        w.own(w.a, 0);
        for (int what : new int[] {LEAST, -1, 4, 5, 256, MOST}) {
            C.refused("in use, what " + what, Checks.ARGUMENT, () -> w.x.handle(w.a, 1, what));
            C.refused("not in use, what " + what, Checks.ARGUMENT, () -> w.x.handle(w.a, 2, what));
        }
    }

    private static void handleNotInUse() {
        C.sentence("Promise 14: NONE when it is not in use");
        World w = new World();
        w.own(w.b, 3);
        for (int h = 1; h <= 16; h++) {
            w.handleIs(C, "at first", w.a, h);
        }
        w.own(w.a, 3);
        w.x.close(w.a);
        w.handleIs(C, "after close", w.a, 1);
        w.x.enter(w.b);
        w.x.drop(1);
        w.handleIs(C, "after drop", w.b, 1);
    }

    private static void handleOwnedAndLent() {
        C.sentence("Promise 14: 0 its resource, 1 that one's kind, 2 whether it is owned (1) or lent (0)");
        World w = new World();
        int both = w.record(World.OWN_1, World.BORROW_0);
        w.own(w.b, 3);
        w.own(w.a, 0, 1);
        w.put(w.a, 0, 2, 1);
        C.due("call", w.callWith(both, 0), 0);
        w.handleIs(C, "its own", w.b, 1, 0, 3, 1, 0);
        w.handleIs(C, "moved to it", w.b, 2, 2, 1, 1, 0);
        w.handleIs(C, "lent to it", w.b, 3, 1, 0, 0, 0);
    }

    private static void handleCountsLoans() {
        C.sentence("LOANS: how many handles were lent from it and are in use still");
        World w = new World();
        int list = w.list(World.BORROW_0);
        int f = w.function(list, World.FLAG);
        w.own(w.a, 0, 0);
        for (int count = 0; count <= 16; count++) {
            w.x.enter(w.a);
            w.x.write(w.a, 0, 4, 8 | (long) count << 16);
            w.x.write(w.a, 8, 8, 0x0101010101010101L);
            w.x.write(w.a, 16, 8, 0x0101010101010101L);
            C.due("call with " + count, w.x.call(f, list, 0), 0);
            w.handleIs(C, "lent " + count + " times", w.a, 1, 0, 0, 1, count);
            w.handleIs(C, "never lent", w.a, 2, 1, 0, 1, 0);
            w.x.back(World.FLAG, 9);
            w.handleIs(C, "lent no more", w.a, 1, 0, 0, 1, 0);
            w.x.leave();
        }
    }

    private static void closeOfNoInstance() {
        C.sentence("Promise 22: IllegalArgumentException: there is no such instance");
        for (int i : new int[] {LEAST, -1, 2, 5, 6, 256, MOST}) {
            C.refused("instance " + i, Checks.ARGUMENT, () -> new World().x.close(i));
        }
    }

    private static void closeOfOneThatRuns() {
        C.sentence("Promise 22: IllegalStateException: it is running");
        World w = new World();
        int third = w.x.instance();
        w.callWith(World.FLAG, 0);
        C.refused("the first one", Checks.STATE, () -> w.x.close(w.a));
        C.refused("the top", Checks.STATE, () -> w.x.close(w.b));
        C.due("another one", w.x.close(third), 0);
        w.x.back(World.FLAG, 9);
        C.refused("the first one still", Checks.STATE, () -> w.x.close(w.a));
        C.due("the one that ended", w.x.close(w.b), 0);
    }

    private static void closeOfOneThatIsClosed() {
        C.sentence("Promise 22: IllegalStateException: it is .. closed");
        World w = new World();
        w.own(w.a, 0);
        C.due("close", w.x.close(w.a), 1);
        C.refused("again", Checks.STATE, () -> w.x.close(w.a));
        C.due("it was destroyed once", w.x.resources(0, true), 1);
    }

    private static void closeOfOneThatIsPoisoned() {
        C.sentence("Promise 22: An instance is closed (a poisoned one)");
        World w = new World();
        w.own(w.a, 0, 1);
        w.x.enter(w.a);
        w.x.trap();
        C.due("close", w.x.close(w.a), 2);
        C.due("closed", w.x.state(w.a, 0), 3);
        C.refused("again", Checks.STATE, () -> w.x.close(w.a));
    }

    private static void closeDestroysWhatItOwns() {
        C.sentence("Promise 22: what it owns is destroyed: how many resources");
        World w = new World();
        w.own(w.a, 0, 1, 2, 3, 3);
        w.own(w.b, 3);
        C.due("close", w.x.close(w.a), 5);
        C.due("of kind 3 gone", w.x.resources(3, true), 2);
        C.due("of kind 3 left", w.x.resources(3, false), 1);
        C.due("of kind 0 gone", w.x.resources(0, true), 1);
        C.due("handles in use", w.x.state(w.a, 2), 0);
        w.handleIs(C, "the other one's", w.b, 1, 5, 3, 1, 0);
    }

    private static void closeCountsFromNoneToSixteen() {
        C.sentence("Promise 22: how many resources (none to 16)");
        for (int count = 0; count <= 16; count++) {
            World w = new World();
            w.ownMany(w.b, 1, count);
            C.due("close", w.x.close(w.b), count);
            C.due("gone", w.x.resources(1, true), count);
            C.due("left", w.x.resources(1, false), 0);
        }
    }

    private static void resourcesOfNoKind() {
        C.sentence("Promise 23: IllegalArgumentException: there is no such kind");
        for (int kind : NO_KINDS) {
            C.refused("kind " + kind, Checks.ARGUMENT, () -> new World().x.resources(kind, false));
            C.refused("kind " + kind + " gone", Checks.ARGUMENT, () -> new World().x.resources(kind, true));
        }
    }

    private static void resourcesAreCountedByKind() {
        C.sentence("Promise 23: How many resources of a kind there are, or (gone) how many were destroyed");
        for (int kind = 0; kind < 4; kind++) {
            World w = new World();
            w.ownMany(w.a, kind, 3);
            w.ownMany(w.b, kind, 2);
            w.x.enter(w.b);
            w.x.drop(2);
            for (int other = 0; other < 4; other++) {
                C.due("there are", w.x.resources(other, false), other == kind ? 4 : 0);
                C.due("gone", w.x.resources(other, true), other == kind ? 1 : 0);
            }
            w.x.leave();
            w.x.close(w.a);
            C.due("there are", w.x.resources(kind, false), 1);
            C.due("gone", w.x.resources(kind, true), 4);
        }
    }
}

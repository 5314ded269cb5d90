/** Promises 12 to 14, 22 and 23: make, drop, handle, close, resources. */
public final class ResourcesTest {
    private static final Checks C = new Checks();

    public static void main(String[] args) {
        makeUsesTheLowestHandle();
        makeRefusesInOrder();
        dropDestroysWhatIsOwned();
        dropEndsALoan();
        handleTellsAll();
        closeDestroysWhatIsOwned();
        resourcesAreCountedByKind();
        C.end();
    }

    private static void makeUsesTheLowestHandle() {
        World w = new World();
        w.x.enter(w.a);
        for (int h = 1; h <= 16; h++) {
            C.due("make", w.x.make(h % 4), h);
        }
        C.refused("a 17th", Checks.UNSUPPORTED, () -> w.x.make(0));
        C.refused("a 17th of no kind", Checks.ARGUMENT, () -> w.x.make(4));
        w.x.drop(7);
        w.x.drop(3);
        C.due("the lowest one", w.x.make(1), 3);
        C.due("the next one", w.x.make(1), 7);
        w.handleIs(C, "resources go on", w.a, 3, 16, 1, 1, 0);
        w.handleIs(C, "resources go on", w.a, 7, 17, 1, 1, 0);
    }

    private static void makeRefusesInOrder() {
        World w = new World();
        C.refused("nothing runs", Checks.STATE, () -> w.x.make(9));
        w.x.enter(w.a);
        C.refused("kind 4", Checks.ARGUMENT, () -> w.x.make(4));
        C.refused("kind -1", Checks.ARGUMENT, () -> w.x.make(-1));
        C.due("what throws makes nothing", w.x.state(w.a, 2), 0);
    }

    private static void dropDestroysWhatIsOwned() {
        World w = new World();
        C.refused("nothing runs", Checks.STATE, () -> w.x.drop(1));
        w.x.enter(w.a);
        C.refused("not in use", Checks.NO_ELEMENT, () -> w.x.drop(1));
        C.refused("no handle 0", Checks.NO_ELEMENT, () -> w.x.drop(0));
        C.refused("no handle 17", Checks.NO_ELEMENT, () -> w.x.drop(17));
        C.refused("no handle at all", Checks.NO_ELEMENT, () -> w.x.drop(Integer.MIN_VALUE));
        w.x.make(2);
        C.due("owned", w.x.drop(1), true);
        C.refused("twice", Checks.NO_ELEMENT, () -> w.x.drop(1));
        C.due("there are", w.x.resources(2, false), 0);
        C.due("gone", w.x.resources(2, true), 1);
    }

    private static void dropEndsALoan() {
        World w = new World();
        w.x.enter(w.a);
        w.x.make(0);
        w.put(w.a, 0, 1);
        C.due("call", w.callWith(World.BORROW_0, 0), 0);
        w.handleIs(C, "the lender's", w.a, 1, 0, 0, 1, 1);
        w.handleIs(C, "the lent one", w.b, 1, 0, 0, 0, 0);
        C.due("lent", w.x.drop(1), false);
        w.handleIs(C, "the lender's", w.a, 1, 0, 0, 1, 0);
        w.handleIs(C, "the lent one", w.b, 1);
        C.due("nothing is destroyed", w.x.resources(0, true), 0);
        C.due("it is there", w.x.resources(0, false), 1);
    }

    private static void handleTellsAll() {
        World w = new World();
        w.x.enter(w.a);
        w.x.make(3);
        w.x.make(1);
        w.handleIs(C, "the first", w.a, 1, 0, 3, 1, 0);
        w.handleIs(C, "the second", w.a, 2, 1, 1, 1, 0);
        w.handleIs(C, "not in use", w.a, 3);
        w.handleIs(C, "not in use", w.a, 16);
        w.handleIs(C, "the other instance's", w.b, 1);
        C.refused("no instance", Checks.ARGUMENT, () -> w.x.handle(2, 1, 0));
        C.refused("no handle 0", Checks.ARGUMENT, () -> w.x.handle(w.a, 0, 0));
        C.refused("no handle 17", Checks.ARGUMENT, () -> w.x.handle(w.a, 17, 0));
        C.refused("no what -1", Checks.ARGUMENT, () -> w.x.handle(w.a, 1, -1));
        C.refused("no what 4", Checks.ARGUMENT, () -> w.x.handle(w.a, 9, 4));
    }

    private static void closeDestroysWhatIsOwned() {
        World w = new World();
        C.refused("close none", Checks.ARGUMENT, () -> w.x.close(2));
        w.x.enter(w.a);
        w.x.make(0);
        w.x.make(2);
        w.x.make(2);
        C.refused("it runs", Checks.STATE, () -> w.x.close(w.a));
        C.due("another one", w.x.close(w.b), 0);
        w.x.leave();
        C.due("three", w.x.close(w.a), 3);
        C.refused("closed", Checks.STATE, () -> w.x.close(w.a));
        C.due("gone", w.x.resources(2, true), 2);
        C.due("gone", w.x.resources(0, true), 1);
        C.due("there are", w.x.resources(2, false), 0);
        w.handleIs(C, "no handle", w.a, 1);
        int third = w.x.instance();
        w.x.enter(third);
        w.x.make(1);
        w.x.trap();
        C.due("a poisoned one", w.x.close(third), 1);
        C.due("is closed", w.x.state(third, 0), 3);
    }

    private static void resourcesAreCountedByKind() {
        World w = new World();
        C.refused("kind 4", Checks.ARGUMENT, () -> w.x.resources(4, false));
        C.refused("kind -1", Checks.ARGUMENT, () -> w.x.resources(-1, true));
        w.x.enter(w.a);
        w.x.make(1);
        w.x.make(1);
        w.x.make(0);
        w.put(w.a, 0, 2);
        w.callWith(World.OWN_1, 0);
        C.due("moved, not gone", w.x.resources(1, false), 2);
        w.x.drop(1);
        C.due("of kind 1", w.x.resources(1, false), 1);
        C.due("of kind 1 gone", w.x.resources(1, true), 1);
        C.due("of kind 0", w.x.resources(0, false), 1);
        C.due("of kind 0 gone", w.x.resources(0, true), 0);
    }
}

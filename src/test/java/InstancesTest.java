/** Promises 6 to 11 and 19 to 21: instance, function, write, read, enter, leave, depth, level, state. */
public final class InstancesTest {
    private static final Checks C = new Checks();

    public static void main(String[] args) {
        thereAreSixInstances();
        functionRefusesInOrder();
        thereAreTwelveFunctions();
        writeLaysTheLowestByteFirst();
        readAndWriteRefuseInOrder();
        enterAndLeave();
        levelsOfTheStack();
        stateOfAnInstance();
        C.end();
    }

    private static void thereAreSixInstances() {
        HostedCalls x = new HostedCalls();
        for (int i = 0; i < 6; i++) {
            C.due("instance", x.instance(), i);
            C.due("ready", x.state(i, 0), 0);
            C.due("heap", x.state(i, 1), 128);
            C.due("handles", x.state(i, 2), 0);
            for (int at = 0; at < 256; at += 5) {
                C.due("memory", x.read(i, at), 0);
            }
        }
        C.refused("a seventh", Checks.STATE, x::instance);
    }

    private static void functionRefusesInOrder() {
        World w = new World();
        int deep = w.record(World.FLAG, w.list(w.variant(World.BYTE, World.BORROW_1)));
        C.due("a borrow in the argument is fine", w.x.function(w.a, deep, World.FLAG), 0);
        C.refused("a borrow", Checks.UNSUPPORTED, () -> w.x.function(w.a, World.FLAG, World.BORROW_0));
        C.refused("a borrow deep in it", Checks.UNSUPPORTED, () -> w.x.function(w.a, World.FLAG, deep));
        C.due("an own is none", w.x.function(w.b, World.FLAG, World.OWN_0), 1);
        C.refused("no instance", Checks.ARGUMENT, () -> w.x.function(2, World.FLAG, deep));
        C.refused("no instance -1", Checks.ARGUMENT, () -> w.x.function(-1, World.FLAG, World.FLAG));
        C.refused("no argument", Checks.ARGUMENT, () -> w.x.function(w.a, 99, deep));
        C.refused("no result", Checks.ARGUMENT, () -> w.x.function(w.a, World.FLAG, -1));
    }

    private static void thereAreTwelveFunctions() {
        World w = new World();
        w.x.close(w.b);
        for (int f = 0; f < 12; f++) {
            C.due("function, of a closed one too", w.x.function(f % 2, World.FLAG, World.WORD), f);
        }
        C.refused("a 13th", Checks.STATE, () -> w.x.function(w.a, World.FLAG, World.FLAG));
        C.refused("a 13th with a borrow", Checks.UNSUPPORTED, () -> w.x.function(w.a, 0, World.BORROW_0));
        C.refused("a 13th of none", Checks.ARGUMENT, () -> w.x.function(9, 0, World.BORROW_0));
    }

    private static void writeLaysTheLowestByteFirst() {
        World w = new World();
        w.x.write(w.a, 10, 8, 0x8877665544332211L);
        w.memoryIs(C, "eight", w.a, 9, 0, 0x11, 0x22, 0x33, 0x44, 0x55, 0x66, 0x77, 0x88, 0);
        w.x.write(w.a, 12, 3, -1);
        w.memoryIs(C, "three", w.a, 11, 0x22, 255, 255, 255, 0x66);
        w.x.write(w.a, 254, 8, 0x030201L);
        w.memoryIs(C, "up to the end", w.a, 254, 1, 2);
        w.memoryIs(C, "not around the end", w.a, 0, 0, 0);
        w.x.write(w.a, 255, 1, 0x1FF);
        w.memoryIs(C, "the last one", w.a, 254, 1, 255);
        w.memoryIs(C, "memories of their own", w.b, 10, 0, 0, 0, 0);
        w.x.close(w.b);
        w.x.write(w.b, 0, 1, 7);
        w.memoryIs(C, "a closed one's", w.b, 0, 7);
    }

    private static void readAndWriteRefuseInOrder() {
        World w = new World();
        C.refused("write to none", Checks.ARGUMENT, () -> w.x.write(2, 999, 1, 0));
        C.refused("no bytes", Checks.ARGUMENT, () -> w.x.write(w.a, 999, 0, 0));
        C.refused("nine bytes", Checks.ARGUMENT, () -> w.x.write(w.a, 0, 9, 0));
        C.refused("write at 256", Checks.BOUNDS, () -> w.x.write(w.a, 256, 1, 0));
        C.refused("write at -1", Checks.BOUNDS, () -> w.x.write(w.a, -1, 8, 0));
        C.refused("read of none", Checks.ARGUMENT, () -> w.x.read(-1, 999));
        C.refused("read at 256", Checks.BOUNDS, () -> w.x.read(w.a, 256));
        C.refused("read at -1", Checks.BOUNDS, () -> w.x.read(w.a, -1));
    }

    private static void enterAndLeave() {
        World w = new World();
        C.refused("leave nothing", Checks.STATE, w.x::leave);
        C.refused("enter none", Checks.ARGUMENT, () -> w.x.enter(2));
        w.x.enter(w.a);
        C.due("it runs", w.x.state(w.a, 0), 1);
        C.refused("enter it again", Checks.STATE, () -> w.x.enter(w.a));
        C.refused("enter another one", Checks.STATE, () -> w.x.enter(w.b));
        C.refused("enter none while one runs", Checks.ARGUMENT, () -> w.x.enter(-1));
        w.x.leave();
        C.due("it is ready", w.x.state(w.a, 0), 0);
        C.due("nothing runs", w.x.depth(), 0);
        w.x.close(w.a);
        C.refused("enter a closed one", Checks.STATE, () -> w.x.enter(w.a));
        w.x.enter(w.b);
        w.x.trap();
        C.refused("enter a poisoned one", Checks.STATE, () -> w.x.enter(w.b));
    }

    private static void levelsOfTheStack() {
        World w = new World();
        int third = w.x.instance();
        int f = w.function(World.BYTE, World.BYTE);
        int g = w.x.function(third, World.BYTE, World.BYTE);
        w.x.enter(w.a);
        C.due("depth", w.x.depth(), 1);
        w.x.call(g, World.BYTE, 0);
        w.x.call(f, World.BYTE, 0);
        C.due("depth", w.x.depth(), 3);
        int[] levels = {w.a, third, w.b};
        for (int k = 0; k < 3; k++) {
            C.due("level " + k, w.x.level(k), levels[k]);
            C.due("running", w.x.state(levels[k], 0), 1);
        }
        C.due("no level", w.x.level(3), HostedCalls.NONE);
        C.due("no level", w.x.level(-1), HostedCalls.NONE);
        C.due("no level", w.x.level(Integer.MIN_VALUE), HostedCalls.NONE);
        C.due("no level", w.x.level(Integer.MAX_VALUE), HostedCalls.NONE);
        C.refused("leave with three", Checks.STATE, w.x::leave);
        w.x.back(World.BYTE, 0);
        C.due("level 2 is gone", w.x.level(2), HostedCalls.NONE);
        C.due("depth", w.x.depth(), 2);
        C.refused("leave with two", Checks.STATE, w.x::leave);
        w.x.back(World.BYTE, 0);
        C.due("heap of the first one", w.x.state(w.a, 1), 129);
        w.x.leave();
        C.due("heap after leave", w.x.state(w.a, 1), 128);
        C.due("level 0", w.x.level(0), HostedCalls.NONE);
    }

    private static void stateOfAnInstance() {
        World w = new World();
        C.refused("state of none", Checks.ARGUMENT, () -> w.x.state(2, 0));
        C.refused("state of -1", Checks.ARGUMENT, () -> w.x.state(-1, 0));
        C.refused("state what 3", Checks.ARGUMENT, () -> w.x.state(0, 3));
        C.refused("state what -1", Checks.ARGUMENT, () -> w.x.state(0, -1));
        w.x.enter(w.a);
        w.x.make(0);
        w.x.make(3);
        C.due("handles in use", w.x.state(w.a, 2), 2);
        w.x.drop(1);
        C.due("handles in use", w.x.state(w.a, 2), 1);
        w.x.trap();
        C.due("poisoned", w.x.state(w.a, 0), 2);
        C.due("it keeps its handle", w.x.state(w.a, 2), 1);
        w.x.close(w.a);
        C.due("closed", w.x.state(w.a, 0), 3);
        C.due("no handles then", w.x.state(w.a, 2), 0);
    }
}

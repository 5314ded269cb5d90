import java.util.List;

/** 'A call that throws changes nothing. Where several exceptions that a call lists fit, the one named first is thrown.' */
public final class RefusalTest {
    private static final Checks C = new Checks();
    private static final int LEAST = Integer.MIN_VALUE;
    private static final int MOST = Integer.MAX_VALUE;
    private static final int NO_TYPE = 32, NO_FUNCTION = 12;
    private static final int[] NUMBERS = {LEAST, -1, 0, 1, 2, 3, 5, 6, 7, 11, 12, 13, 16, 17, 31, 32, 255, 256, MOST};

    private static int refusals = 0;

    public static void main(String[] args) {
        refusalsChangeNothing();
        partInOrder();
        typeInOrder();
        layoutInOrder();
        functionInOrder();
        writeInOrder();
        readInOrder();
        enterInOrder();
        makeInOrder();
        dropInOrder();
        callInOrder();
        backInOrder();
        C.end();
    }

    private static void refusalsChangeNothing() {
        C.sentence("A call that throws changes nothing");
        changesNothing("at first", w -> { });
        changesNothing("with three parts", w -> draft(w, World.LONG, World.BYTE, World.BORROW_0));
        changesNothing("with six parts", w -> draft(w, 0, 1, 2, 3, 4, 5));
        changesNothing("with a part that is too deep", RefusalTest::draftTooDeep);
        changesNothing("with parts that are too large", RefusalTest::draftTooLarge);
        changesNothing("with all types", RefusalTest::allTypes);
        changesNothing("with all instances and functions", RefusalTest::allInstancesAndFunctions);
        changesNothing("while one runs", RefusalTest::oneRuns);
        changesNothing("while three run", RefusalTest::threeRun);
        changesNothing("after a trap", RefusalTest::afterATrap);
        changesNothing("with all handles in use", w -> {
            w.ownMany(w.a, 1, 16);
            w.x.enter(w.a);
        });
        C.due("there were many refusals", refusals > 1000, true);
    }

    private static void draft(World w, int... parts) {
        for (int part : parts) {
            w.x.part(part);
        }
    }

    private static void draftTooDeep(World w) {
        draft(w, w.variant(w.list(w.record(w.list(World.FLAG)))));
    }

    private static void draftTooLarge(World w) {
        int large = w.record(World.LONG, World.LONG, World.LONG, World.LONG, World.LONG, World.LONG);
        draft(w, large, large, World.FLAG);
    }

    private static void allTypes(World w) {
        for (int t = 13; t < 32; t++) {
            w.x.type(t % 7, 0);
        }
        draft(w, World.WORD);
    }

    private static void allInstancesAndFunctions(World w) {
        for (int i = 2; i < 6; i++) {
            w.x.instance();
        }
        for (int f = 0; f < 12; f++) {
            w.x.function(f % 6, f % 7, f % 5);
        }
        w.x.close(5);
        w.x.write(5, 250, 8, -1);
    }

    private static void oneRuns(World w) {
        w.function(World.FLAG, World.WORD);
        w.x.enter(w.a);
        w.x.make(1);
        w.x.make(2);
        w.x.drop(1);
        w.put(w.a, 248, 9, 8, 7, 6, 5, 4, 3, 2);
        w.x.call(0, World.FLAG, 0);
        w.x.back(World.WORD, 0);
    }

    /** a lends and gives to b, which lends on to a third one; a fourth one is closed, a fifth one poisoned. */
    private static void threeRun(World w) {
        for (int i = 2; i < 5; i++) {
            w.x.instance();
        }
        int pair = w.record(World.BORROW_0, World.OWN_1);
        int f = w.function(pair, World.FLAG);
        int g = w.x.function(2, World.BORROW_0, World.WORD);
        w.x.function(3, World.FLAG, World.FLAG);
        w.x.function(4, World.FLAG, World.FLAG);
        w.x.close(3);
        w.x.enter(4);
        w.x.trap();
        w.own(w.a, 0, 1);
        w.put(w.a, 0, 1, 2);
        w.x.enter(w.a);
        w.x.call(f, pair, 0);
        w.put(w.b, 0, 1);
        w.x.call(g, World.BORROW_0, 0);
        w.put(2, 248, 9, 8, 7, 6, 5, 4, 3, 2);
        draft(w, World.FLAG, World.LONG);
    }

    private static void afterATrap(World w) {
        threeRun(w);
        w.x.back(World.WORD, 254);
    }

    private static void changesNothing(String when, Seen.Run run) {
        List<String> before = Seen.after(run);
        for (int n : NUMBERS) {
            refused(when, "part " + n, run, before, x -> x.part(n));
            refused(when, "enter " + n, run, before, x -> none(() -> x.enter(n)));
            refused(when, "make " + n, run, before, x -> x.make(n));
            refused(when, "drop " + n, run, before, x -> x.drop(n) ? 1 : 0);
            refused(when, "close " + n, run, before, x -> x.close(n));
            refused(when, "resources " + n, run, before, x -> x.resources(n, n > 9));
            refused(when, "latest " + n, run, before, x -> x.latest(n));
            refused(when, "type " + n, run, before, x -> x.type(n, 5));
            refused(when, "type of n " + n, run, before, x -> x.type(n % 2 == 0 ? 7 : 11, n));
            refused(when, "layout " + n, run, before, x -> x.layout(n, 5));
            refused(when, "layout what " + n, run, before, x -> x.layout(0, n));
            refused(when, "fits " + n, run, before, x -> x.fits(n, 31));
            refused(when, "function of " + n, run, before, x -> x.function(n, 0, 12));
            refused(when, "function with " + n, run, before, x -> x.function(0, n, 0));
            refused(when, "read " + n, run, before, x -> x.read(1, n));
            refused(when, "write at " + n, run, before, x -> none(() -> x.write(1, n, 8, -1)));
            refused(when, "write bytes " + n, run, before, x -> none(() -> x.write(0, 248, n, -1)));
            refused(when, "write to " + n, run, before, x -> none(() -> x.write(n, 248, 8, -1)));
            refused(when, "handle " + n, run, before, x -> x.handle(0, n, 0));
            refused(when, "state " + n, run, before, x -> x.state(n, 3));
            refused(when, "call of " + n, run, before, x -> x.call(n, World.LETTER, 248));
            refused(when, "call with " + n, run, before, x -> x.call(0, n, n));
            refused(when, "call of a flag of " + n, run, before, x -> x.call(n, World.FLAG, 248));
            refused(when, "back " + n, run, before, x -> x.back(n, n));
        }
        refused(when, "instance", run, before, x -> x.instance());
        refused(when, "leave", run, before, x -> none(x::leave));
        refused(when, "trap", run, before, x -> none(x::trap));
        for (int kind = 8; kind <= 10; kind++) {
            int k = kind;
            refused(when, "type " + kind, run, before, x -> x.type(k, 0));
        }
    }

    private static long none(Runnable call) {
        call.run();
        return 0;
    }

    /** If the call throws after the run, all must be seen as without it. */
    private static void refused(String when, String what, Seen.Run run, List<String> before, Seen.Call call) {
        World w = new World();
        run.on(w);
        if (!Seen.answer(w.x, call).startsWith("throws")) {
            return;
        }
        refusals++;
        List<String> after = Seen.after(v -> {
            run.on(v);
            Seen.answer(v.x, call);
        });
        for (int k = 0; k < before.size() && k < after.size(); k++) {
            if (!before.get(k).equals(after.get(k))) {
                C.tell(what + " " + when + ": was " + before.get(k) + ", is " + after.get(k));
            }
        }
        C.due(what + " " + when + ": how much is seen", after.size(), before.size());
    }

    private static void first(String what, Class<? extends RuntimeException> due, Runnable call) {
        C.refused(what, due, call);
    }

    private static void partInOrder() {
        C.sentence("the one named first: part");
        World w = new World();
        draft(w, 0, 0, 0, 0, 0, 0);
        first("no such type, and six", Checks.ARGUMENT, () -> w.x.part(13));
        first("no such type, and six", Checks.ARGUMENT, () -> w.x.part(-1));
        first("six", Checks.STATE, () -> w.x.part(12));
    }

    private static void typeInOrder() {
        C.sentence("the one named first: type");
        World w = new World();
        int deep = w.variant(w.list(w.record(w.list(World.FLAG))));
        int large = w.record(World.LONG, World.LONG, World.LONG, World.LONG, World.LONG, World.LONG);
        while (w.x.type(0, 0) < 31) {
            C.due("types go on", w.x.depth(), 0);
        }
        first("no such kind, and 32", Checks.ARGUMENT, () -> w.x.type(13, 0));
        first("no such n, and 32", Checks.ARGUMENT, () -> w.x.type(7, 0));
        first("no such resource kind, and 32", Checks.ARGUMENT, () -> w.x.type(12, 4));
        first("too few parts, and 32", Checks.ARGUMENT, () -> w.x.type(8, 0));
        first("32", Checks.STATE, () -> w.x.type(7, 1));
        w.x.part(large);
        first("32 with a part", Checks.STATE, () -> w.x.type(8, 0));
        first("too many parts, and 32", Checks.ARGUMENT, () -> w.x.type(0, 0));
        w.x.part(large);
        first("too many parts for a list, and 32", Checks.ARGUMENT, () -> w.x.type(8, 0));
        first("32 with two parts", Checks.STATE, () -> w.x.type(9, 0));
        w.x.part(0);
        first("too large, and 32", Checks.ARGUMENT, () -> w.x.type(9, 0));
        first("32 with a variant", Checks.STATE, () -> w.x.type(10, 0));
        w.x.part(deep);
        first("too deep, and 32", Checks.ARGUMENT, () -> w.x.type(10, 0));
    }

    private static void layoutInOrder() {
        C.sentence("the one named first: layout");
        World w = new World();
        for (int what : new int[] {LEAST, -1, 5, 99, MOST}) {
            first("no such type, no such what", Checks.ARGUMENT, () -> w.x.layout(13, what));
            first("no such what", Checks.BOUNDS, () -> w.x.layout(12, what));
        }
    }

    private static void functionInOrder() {
        C.sentence("the one named first: function");
        World w = new World();
        for (int round = 0; round < 2; round++) {
            first("no such instance, a borrow", Checks.ARGUMENT, () -> w.x.function(2, 0, World.BORROW_0));
            first("no such argument, a borrow", Checks.ARGUMENT, () -> w.x.function(0, 13, World.BORROW_0));
            first("no such result", Checks.ARGUMENT, () -> w.x.function(0, 0, 13));
            first("a borrow", Checks.UNSUPPORTED, () -> w.x.function(0, 0, World.BORROW_0));
            for (int f = 0; f < 12 && round == 0; f++) {
                w.x.function(0, 0, 0);
            }
        }
        first("12", Checks.STATE, () -> w.x.function(0, 0, 0));
    }

    private static void writeInOrder() {
        C.sentence("the one named first: write");
        World w = new World();
        for (int at : new int[] {LEAST, -1, 256, MOST}) {
            first("no such instance, no such place", Checks.ARGUMENT, () -> w.x.write(2, at, 1, 0));
            first("no bytes, no such place", Checks.ARGUMENT, () -> w.x.write(0, at, 0, 0));
            first("nine bytes, no such place", Checks.ARGUMENT, () -> w.x.write(0, at, 9, 0));
            first("no such place", Checks.BOUNDS, () -> w.x.write(0, at, 8, 0));
        }
    }

    private static void readInOrder() {
        C.sentence("the one named first: read");
        World w = new World();
        for (int at : new int[] {LEAST, -1, 256, MOST}) {
            first("no such instance, no such place", Checks.ARGUMENT, () -> w.x.read(2, at));
            first("no such place", Checks.BOUNDS, () -> w.x.read(1, at));
        }
    }

    private static void enterInOrder() {
        C.sentence("the one named first: enter");
        World w = new World();
        w.x.enter(w.a);
        first("no such instance, one runs", Checks.ARGUMENT, () -> w.x.enter(2));
        first("one runs", Checks.STATE, () -> w.x.enter(w.b));
    }

    private static void makeInOrder() {
        C.sentence("the one named first: make");
        World w = new World();
        first("nothing runs, no such kind", Checks.STATE, () -> w.x.make(4));
        w.ownMany(w.a, 0, 16);
        first("nothing runs", Checks.STATE, () -> w.x.make(0));
        w.x.enter(w.a);
        first("no such kind, all handles in use", Checks.ARGUMENT, () -> w.x.make(4));
        first("all handles in use", Checks.UNSUPPORTED, () -> w.x.make(3));
    }

    private static void dropInOrder() {
        C.sentence("the one named first: drop");
        World w = new World();
        first("nothing runs, not in use", Checks.STATE, () -> w.x.drop(1));
        first("nothing runs, no such handle", Checks.STATE, () -> w.x.drop(0));
        w.x.enter(w.a);
        first("not in use", Checks.NO_ELEMENT, () -> w.x.drop(1));
    }

    private static void callInOrder() {
        C.sentence("the one named first: call");
        World w = new World();
        int f = w.function(World.BYTE, World.BYTE);
        int own = w.x.function(w.a, World.BYTE, World.BYTE);
        for (int round = 0; round < 2; round++) {
            first("nothing runs, no such function", Checks.STATE, () -> w.x.call(NO_FUNCTION, 0, 0));
            first("nothing runs, no such type", Checks.STATE, () -> w.x.call(f, NO_TYPE, 0));
            first("nothing runs, it does not fit", Checks.STATE, () -> w.x.call(f, World.FLAG, 0));
            first("nothing runs", Checks.STATE, () -> w.x.call(f, World.BYTE, 0));
            if (round == 0) {
                w.x.close(w.b);
            }
        }
        w.x.enter(w.a);
        first("no such function, no such type", Checks.ARGUMENT, () -> w.x.call(NO_FUNCTION, NO_TYPE, 0));
        first("no such type, closed", Checks.ARGUMENT, () -> w.x.call(f, NO_TYPE, 0));
        first("it does not fit, closed", Checks.UNSUPPORTED, () -> w.x.call(f, World.FLAG, 0));
        first("closed", Checks.NO_ELEMENT, () -> w.x.call(f, World.BYTE, -1));
        first("no such type, it runs", Checks.ARGUMENT, () -> w.x.call(own, NO_TYPE, 0));
        first("it does not fit, it runs", Checks.UNSUPPORTED, () -> w.x.call(own, World.FLAG, 0));
        C.due("it runs", w.x.call(own, World.BYTE, -1), 14);
    }

    private static void backInOrder() {
        C.sentence("the one named first: back");
        World w = new World();
        first("nothing runs, no such type", Checks.STATE, () -> w.x.back(NO_TYPE, 0));
        w.x.enter(w.a);
        first("one runs, no such type", Checks.STATE, () -> w.x.back(NO_TYPE, 0));
        w.callWith(World.FLAG, 0);
        first("no such type", Checks.ARGUMENT, () -> w.x.back(NO_TYPE, 0));
        first("it does not fit", Checks.UNSUPPORTED, () -> w.x.back(World.BYTE, 0));
    }
}

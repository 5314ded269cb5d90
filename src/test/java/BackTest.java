/** Promises 16 and 18: back, passed. */
public final class BackTest {
    private static final Checks C = new Checks();

    public static void main(String[] args) {
        backRefusesInOrder();
        backPassesTheResult();
        backKnowsTheFunctionOfTheTop();
        backEndsTheLoansOfTheCall();
        backMovesWhatIsOwned();
        backTrapsForTheTop();
        backTrapsForTheOneBelow();
        passedIsOfTheTop();
        C.end();
    }

    private static void backRefusesInOrder() {
        World w = new World();
        C.refused("nothing runs", Checks.STATE, () -> w.x.back(99, 0));
        w.x.enter(w.a);
        C.refused("only one runs", Checks.STATE, () -> w.x.back(99, 0));
        int f = w.function(World.BYTE, World.WORD);
        w.x.call(f, World.BYTE, 0);
        C.refused("no type", Checks.ARGUMENT, () -> w.x.back(99, 0));
        C.refused("no type -1", Checks.ARGUMENT, () -> w.x.back(-1, 0));
        C.refused("it does not fit the result", Checks.UNSUPPORTED, () -> w.x.back(World.BYTE, 0));
        C.due("nothing has changed", w.x.depth(), 2);
        C.due("back", w.x.back(World.WORD, 0), 0);
    }

    private static void backPassesTheResult() {
        World w = new World();
        int wide = w.record(World.BYTE, World.LONG);
        int narrow = w.record(World.BYTE);
        int f = w.function(World.BYTE, narrow);
        w.x.enter(w.a);
        w.x.call(f, World.BYTE, 0);
        w.put(w.b, 16, 42);
        C.due("back", w.x.back(wide, 16), 0);
        C.due("a is the top", w.x.depth(), 1);
        C.due("a runs", w.x.state(w.a, 0), 1);
        C.due("b is ready", w.x.state(w.b, 0), 0);
        C.due("b's heap", w.x.state(w.b, 1), 128);
        C.due("a's heap", w.x.state(w.a, 1), 129);
        w.memoryIs(C, "the result", w.a, 128, 42, 0);
        w.x.call(f, World.BYTE, 0);
        C.due("passed to b anew", w.x.passed(), 128);
        w.x.back(narrow, 16);
        C.due("the next result lies behind the first", w.x.passed(), 129);
        C.due("a's heap", w.x.state(w.a, 1), 130);
    }

    private static void backKnowsTheFunctionOfTheTop() {
        World w = new World();
        int third = w.x.instance();
        int[] functions = {w.function(World.FLAG, World.SHORT), w.function(World.FLAG, World.WORD),
            w.x.function(third, World.FLAG, World.BYTE), w.x.function(third, World.FLAG, World.LETTER)};
        w.x.enter(w.a);
        w.x.call(functions[1], World.FLAG, 0);
        w.x.call(functions[3], World.FLAG, 0);
        C.refused("not that of the third one's other function", Checks.UNSUPPORTED, () -> w.x.back(World.BYTE, 0));
        C.refused("not that of the one below", Checks.UNSUPPORTED, () -> w.x.back(World.WORD, 0));
        C.due("back from the third one", w.x.back(World.LETTER, 0), 0);
        C.refused("not that of the call that ended", Checks.UNSUPPORTED, () -> w.x.back(World.LETTER, 0));
        C.refused("not that of b's other function", Checks.UNSUPPORTED, () -> w.x.back(World.SHORT, 0));
        C.due("back from b", w.x.back(World.WORD, 0), 0);
    }

    private static void backEndsTheLoansOfTheCall() {
        World w = new World();
        int third = w.x.instance();
        int f = w.function(w.record(World.BORROW_0, World.BORROW_0, World.OWN_1), World.FLAG);
        int g = w.x.function(third, World.BORROW_0, World.FLAG);
        w.x.enter(w.a);
        w.x.make(0);
        w.x.make(1);
        w.put(w.a, 0, 1, 1, 2);
        C.due("call", w.x.call(f, 13, 0), 0);
        w.put(w.b, 0, 2);
        C.due("call on", w.x.call(g, World.BORROW_0, 0), 0);
        C.due("back from there", w.x.back(World.FLAG, 0), 0);
        w.handleIs(C, "the third one's", third, 1);
        w.handleIs(C, "b's has no loan", w.b, 2, 0, 0, 0, 0);
        w.handleIs(C, "a's has two still", w.a, 1, 0, 0, 1, 2);
        w.x.drop(1);
        C.due("back", w.x.back(World.FLAG, 1), 0);
        w.handleIs(C, "a's has none", w.a, 1, 0, 0, 1, 0);
        w.handleIs(C, "b's lent one", w.b, 2);
        w.handleIs(C, "b keeps what it owns", w.b, 3, 1, 1, 1, 0);
        C.due("a can drop it", w.x.drop(1), true);
    }

    private static void backMovesWhatIsOwned() {
        World w = new World();
        int f = w.function(World.BORROW_0, World.OWN_0);
        w.x.enter(w.a);
        w.x.make(0);
        w.put(w.a, 0, 1);
        w.x.call(f, World.BORROW_0, 0);
        C.due("make", w.x.make(0), 2);
        w.put(w.b, 9, 2);
        C.due("back", w.x.back(World.OWN_0, 9), 0);
        w.handleIs(C, "moved", w.a, 2, 1, 0, 1, 0);
        C.due("b has none", w.x.state(w.b, 2), 0);
        C.due("its number", w.x.read(w.a, w.x.passed()), 2);
        w.x.call(f, World.BORROW_0, 0);
        w.put(w.b, 9, 1);
        C.due("what is lent is not given back so", w.x.back(World.OWN_0, 9), 8);
        w.latestIs(C, "lent", 8, 9, w.b);
    }

    private static void backTrapsForTheTop() {
        World w = new World();
        int f = w.function(World.BORROW_0, World.FLAG);
        w.x.enter(w.a);
        w.x.make(0);
        w.put(w.a, 0, 1);
        w.x.call(f, World.BORROW_0, 0);
        w.put(w.b, 200, 2);
        C.due("back", w.x.back(World.FLAG, 200), 2);
        w.latestIs(C, "back", 2, 200, w.b);
        C.due("a is ready", w.x.state(w.a, 0), 0);
        C.due("b is poisoned", w.x.state(w.b, 0), 2);
        C.due("the stack is empty", w.x.depth(), 0);
        w.handleIs(C, "lent no more", w.b, 1);
        w.handleIs(C, "no loans", w.a, 1, 0, 0, 1, 0);
    }

    private static void backTrapsForTheOneBelow() {
        World w = new World();
        int third = w.x.instance();
        int f = w.function(World.FLAG, World.TEXT);
        int g = w.x.function(third, World.FLAG, World.TEXT);
        w.x.enter(w.a);
        w.x.call(f, World.FLAG, 0);
        w.x.call(g, World.FLAG, 0);
        w.put(third, 0, 4, 0, 124, 0);
        C.due("back", w.x.back(World.TEXT, 0), 11);
        w.latestIs(C, "back", 11, 134, w.b);
        C.due("b is poisoned", w.x.state(w.b, 0), 2);
        C.due("the top is ready", w.x.state(third, 0), 0);
        C.due("the first one is ready", w.x.state(w.a, 0), 0);
        C.due("b's heap", w.x.state(w.b, 1), 128);
    }

    private static void passedIsOfTheTop() {
        World w = new World();
        int f = w.function(World.WORD, World.LONG);
        C.due("nothing runs", w.x.passed(), HostedCalls.NONE);
        w.x.enter(w.a);
        C.due("nothing was passed", w.x.passed(), HostedCalls.NONE);
        w.x.call(f, World.WORD, 0);
        C.due("the argument", w.x.passed(), 128);
        w.x.back(World.LONG, 0);
        C.due("the result", w.x.passed(), 128);
        w.x.call(f, World.WORD, 0);
        w.x.back(World.LONG, 0);
        C.due("the latest result", w.x.passed(), 136);
        w.x.leave();
        C.due("nothing runs", w.x.passed(), HostedCalls.NONE);
        w.x.enter(w.a);
        C.due("since it began to run", w.x.passed(), HostedCalls.NONE);
    }
}

/** The edges of calls, results and traps: promises 15 to 17 and 24, and TRAP in Terms. Each method tests one sentence. */
public final class TrapEdgesTest {
    private static final Checks C = new Checks();
    private static final int LEAST = Integer.MIN_VALUE;
    private static final int MOST = Integer.MAX_VALUE;
    private static final int[] FAR = {LEAST, -65536, -1, 0, 255, 256, 65536, MOST};

    public static void main(String[] args) {
        callOnAnEmptyStack();
        callOfNoFunction();
        callOfNoType();
        callThatDoesNotFit();
        callOfAPoisonedOne();
        callOfAClosedOne();
        callOfOneThatRuns();
        callOfOneThatRunsReadsNothing();
        backWithoutTwo();
        backOfNoType();
        backThatDoesNotFit();
        backEndsLoansThatAreLeft();
        backMakesItReady();
        codesOfCalls();
        codesOfResults();
        trapOnAnEmptyStack();
        trapOfTheTop();
        othersAreReadyAgain();
        othersStayAsTheyAre();
        heapsAre128();
        lentHandlesAreInUseNoMore();
        takenOnesAreOwnedAsBefore();
        madeHandlesAreNotInUse();
        whatWasPassedBeforeStays();
        latestAtFirst();
        latestOfNoSuchWhat();
        latestIsTheLatest();
        C.end();
    }

    private static void callOnAnEmptyStack() {
        C.sentence("Promise 15: IllegalStateException: the stack is empty");
        World w = new World();
        int f = w.function(World.FLAG, World.FLAG);
        C.refused("at first", Checks.STATE, () -> w.x.call(f, World.FLAG, 0));
        w.x.enter(w.a);
        w.x.leave();
        C.refused("after leave", Checks.STATE, () -> w.x.call(f, World.FLAG, 0));
        w.x.enter(w.a);
        w.x.trap();
        C.refused("after a trap", Checks.STATE, () -> w.x.call(f, World.FLAG, 0));
    }

    private static void callOfNoFunction() {
        C.sentence("Promise 15: IllegalArgumentException: there is no such function");
        World w = new World();
        w.x.enter(w.a);
        C.refused("before one is made", Checks.ARGUMENT, () -> w.x.call(0, World.FLAG, 0));
        w.function(World.FLAG, World.FLAG);
        for (int f : new int[] {LEAST, -12, -1, 1, 2, 11, 12, 256, 65536, MOST}) {
            C.refused("function " + f, Checks.ARGUMENT, () -> w.x.call(f, World.FLAG, 0));
        }
    }

    private static void callOfNoType() {
        C.sentence("Promise 15: IllegalArgumentException: there is no such .. type");
        World w = new World();
        int f = w.function(World.FLAG, World.FLAG);
        w.x.enter(w.a);
        for (int t : new int[] {LEAST, -1, 13, 31, 32, 256, MOST}) {
            C.refused("type " + t, Checks.ARGUMENT, () -> w.x.call(f, t, 0));
        }
    }

    private static void callThatDoesNotFit() {
        C.sentence("Promise 15: UnsupportedOperationException: t does not fit the argument");
        World w = new World();
        int f = w.function(World.CHOICE_3, World.CHOICE_9);
        w.x.enter(w.a);
        for (int t = 0; t <= World.BORROW_1; t++) {
            int other = t;
            if (t != World.CHOICE_3) {
                C.refused("type " + t, Checks.UNSUPPORTED, () -> w.x.call(f, other, 0));
            }
        }
        for (int at : FAR) {
            C.refused("at " + at, Checks.UNSUPPORTED, () -> w.x.call(f, World.LONG, at));
        }
        C.due("no trap", w.x.latest(0), 0);
        C.due("that which fits", w.x.call(f, World.CHOICE_3, 0), 0);
    }

    private static void callOfAPoisonedOne() {
        C.sentence("Promise 15: NoSuchElementException: the function's instance is poisoned");
        World w = new World();
        int f = w.function(World.FLAG, World.FLAG);
        w.x.enter(w.b);
        w.x.trap();
        w.x.enter(w.a);
        for (int at : FAR) {
            C.refused("at " + at, Checks.NO_ELEMENT, () -> w.x.call(f, World.FLAG, at));
        }
        C.due("a runs on", w.x.depth(), 1);
        w.latestIs(C, "the trap before is the latest", 13, 0, w.b);
    }

    private static void callOfAClosedOne() {
        C.sentence("Promise 15: NoSuchElementException: the function's instance is .. closed");
        World w = new World();
        int f = w.function(World.FLAG, World.FLAG);
        w.x.enter(w.a);
        w.x.close(w.b);
        for (int at : FAR) {
            C.refused("at " + at, Checks.NO_ELEMENT, () -> w.x.call(f, World.FLAG, at));
        }
        C.due("a runs on", w.x.level(0), w.a);
        C.due("no trap", w.x.latest(0), 0);
    }

    /** Instances 0 to 3, where 0 .. 2 run; function i belongs to instance i and takes and gives a flag. */
    private static World chain() {
        World w = new World();
        w.x.instance();
        w.x.instance();
        for (int i = 0; i < 4; i++) {
            w.x.function(i, World.FLAG, World.FLAG);
        }
        w.x.enter(0);
        w.x.call(1, World.FLAG, 0);
        w.x.call(2, World.FLAG, 0);
        return w;
    }

    private static void callOfOneThatRuns() {
        C.sentence("Promise 15: this is 14, at the place, when that instance is running already");
        for (int called = 0; called < 3; called++) {
            World w = chain();
            C.due("call", w.x.call(called, World.FLAG, 33), 14);
            w.latestIs(C, "instance " + called, 14, 33, 2);
            for (int i = 0; i < 4; i++) {
                C.due("state of " + i, w.x.state(i, 0), i == 2 ? 2 : 0);
            }
            C.due("depth", w.x.depth(), 0);
        }
        C.due("one that does not run", chain().x.call(3, World.FLAG, 33), 0);
    }

    private static void callOfOneThatRunsReadsNothing() {
        C.sentence("Promise 15: (nothing is read then)");
        for (int at : FAR) {
            World w = new World();
            int f = w.x.function(w.a, World.LONG, World.FLAG);
            w.x.enter(w.a);
            C.due("at " + at, w.x.call(f, World.LONG, at), 14);
            w.latestIs(C, "at " + at, 14, at, w.a);
        }
        World w = new World();
        int f = w.x.function(w.a, World.OWN_0, World.FLAG);
        w.own(w.a, 0);
        w.put(w.a, 9, 1);
        w.x.enter(w.a);
        C.due("with a handle", w.x.call(f, World.OWN_0, 9), 14);
        w.handleIs(C, "it is owned as before", w.a, 1, 0, 0, 1, 0);
    }

    private static void backWithoutTwo() {
        C.sentence("Promise 16: IllegalStateException: there are not two on the stack");
        World w = new World();
        C.refused("none", Checks.STATE, () -> w.x.back(World.FLAG, 0));
        w.x.enter(w.a);
        C.refused("one", Checks.STATE, () -> w.x.back(World.FLAG, 0));
        w.callWith(World.FLAG, 0);
        w.x.back(World.FLAG, 0);
        C.refused("one again", Checks.STATE, () -> w.x.back(World.FLAG, 0));
        World three = chain();
        C.due("three", three.x.back(World.FLAG, 0), 0);
        C.due("two", three.x.back(World.FLAG, 0), 0);
        C.refused("one of three", Checks.STATE, () -> three.x.back(World.FLAG, 0));
    }

    private static void backOfNoType() {
        C.sentence("Promise 16: IllegalArgumentException: there is no such type");
        World w = chain();
        for (int t : new int[] {LEAST, -1, 13, 31, 32, 256, MOST}) {
            C.refused("type " + t, Checks.ARGUMENT, () -> w.x.back(t, 0));
        }
    }

    private static void backThatDoesNotFit() {
        C.sentence("Promise 16: UnsupportedOperationException: t does not fit the result");
        World w = new World();
        w.x.enter(w.a);
        w.x.call(w.function(World.CHOICE_9, World.CHOICE_3), World.CHOICE_9, 0);
        for (int t = 0; t <= World.BORROW_1; t++) {
            int other = t;
            if (t != World.CHOICE_3) {
                C.refused("type " + t, Checks.UNSUPPORTED, () -> w.x.back(other, 0));
            }
        }
        for (int at : FAR) {
            C.refused("at " + at, Checks.UNSUPPORTED, () -> w.x.back(World.LONG, at));
        }
        C.due("that which fits", w.x.back(World.CHOICE_3, 0), 0);
    }

    private static void backEndsLoansThatAreLeft() {
        C.sentence("Promise 16: the handles that were lent for the call, as far as they are in use, are so no more, "
                + "nor are their loans");
        for (int dropped = 0; dropped <= 4; dropped++) {
            World w = new World();
            int four = w.record(World.BORROW_0, World.BORROW_1, World.BORROW_0, World.BORROW_1);
            w.own(w.b, 3);
            w.own(w.a, 0, 1);
            w.put(w.a, 0, 1, 2, 1, 2);
            C.due("call", w.callWith(four, 0), 0);
            for (int k = 0; k < dropped; k++) {
                C.due("drop", w.x.drop(2 + k), false);
            }
            C.due("back", w.x.back(World.FLAG, 9), 0);
            w.handleIs(C, "a's first", w.a, 1, 1, 0, 1, 0);
            w.handleIs(C, "a's second", w.a, 2, 2, 1, 1, 0);
            w.handleIs(C, "b's own", w.b, 1, 0, 3, 1, 0);
            C.due("b's others", w.x.state(w.b, 2), 1);
        }
    }

    private static void backMakesItReady() {
        C.sentence("Promise 16: the instance is ready, its heap 128");
        World w = new World();
        int f = w.function(World.LONG, World.SHORT);
        w.x.enter(w.a);
        for (int k = 0; k < 3; k++) {
            C.due("call", w.x.call(f, World.LONG, 0), 0);
            C.due("its heap before", w.x.state(w.b, 1), 136);
            C.due("back", w.x.back(World.SHORT, 0), 0);
            C.due("ready", w.x.state(w.b, 0), 0);
            C.due("its heap", w.x.state(w.b, 1), 128);
            C.due("the heap below grows", w.x.state(w.a, 1), 130 + 2 * k);
            C.due("the one below is the top", w.x.level(0), w.a);
        }
    }

    private static final int LETTER_AT = 40, TEXT_AT = 44, LONG_TEXT_AT = 48, MANY_AT = 52;
    private static final int TWO_AT = 56, ONES_AT = 57, NINE_AT = 59, NO_GROUP_AT = 60;
    private static final int BYTES = 13, OWNS = 14, LENT_AND_OWN = 15;

    /** Each row: a code, a type and a place of a value that makes such a trap, and the trap's place. */
    private static final int[][] CODES = {
        {1, World.BYTE, 256, 256}, {1, World.TEXT, 254, 256}, {2, World.FLAG, TWO_AT, TWO_AT},
        {2, World.CHOICE_3, NINE_AT, NINE_AT}, {3, World.LETTER, LETTER_AT, LETTER_AT},
        {4, World.TEXT, TEXT_AT, NO_GROUP_AT}, {5, World.SHORT, 41, 41}, {6, World.OWN_0, NINE_AT, NINE_AT},
        {6, OWNS, ONES_AT, ONES_AT + 1}, {7, World.OWN_0, TWO_AT, TWO_AT}, {9, LENT_AND_OWN, ONES_AT, ONES_AT + 1},
        {10, BYTES, MANY_AT, 10 + 199}, {11, World.TEXT, LONG_TEXT_AT, 132}, {12, World.OWN_0, ONES_AT, ONES_AT}};

    /** Three instances, each with all those values, and with handles 1 of kind 0, 2 of kind 2, and 3 of kind 0. */
    private static World filled() {
        World w = new World();
        w.x.instance();
        for (int i = 0; i < 3; i++) {
            w.own(i, 0, 2, 0);
            w.x.write(i, LETTER_AT, 4, 55296);
            w.x.write(i, TEXT_AT, 4, NO_GROUP_AT | 1 << 16);
            w.x.write(i, LONG_TEXT_AT, 4, 100 | 130L << 16);
            w.x.write(i, MANY_AT, 4, 10 | 200L << 16);
            w.put(i, TWO_AT, 2, 1, 1, 9, 255);
        }
        w.list(World.BYTE);
        w.record(World.OWN_0, World.OWN_0);
        w.record(World.BORROW_0, World.OWN_0);
        return w;
    }

    /** b, called by a, calls the third one with a value that makes the trap: b is poisoned, or the third one. */
    private static void codesOfCalls() {
        C.sentence("POISONED by it: for the codes 11 and 12 that to which was passed, otherwise that from which (calls)");
        for (int[] row : CODES) {
            World w = filled();
            int f = w.function(World.FLAG, World.FLAG);
            int g = w.x.function(2, row[1], World.FLAG);
            w.ownMany(2, 3, row[0] == 12 ? 13 : 0);
            w.x.enter(w.a);
            w.x.call(f, World.FLAG, 0);
            C.due("code", w.x.call(g, row[1], row[2]), row[0]);
            poisonedAlone(w, row, row[0] == 11 || row[0] == 12 ? 2 : w.b);
        }
    }

    /** The third one, called by b, which was called by a, gives such a value back: it is poisoned, or b. */
    private static void codesOfResults() {
        C.sentence("POISONED by it: for the codes 11 and 12 that to which was passed, otherwise that from which (results)");
        for (int[] row : CODES) {
            if (row[1] == LENT_AND_OWN) {
                continue;
            }
            World w = filled();
            int f = w.function(World.FLAG, World.FLAG);
            int g = w.x.function(2, World.FLAG, row[1]);
            w.ownMany(w.b, 3, row[0] == 12 ? 13 : 0);
            w.x.enter(w.a);
            w.x.call(f, World.FLAG, 0);
            w.x.call(g, World.FLAG, 0);
            C.due("code", w.x.back(row[1], row[2]), row[0]);
            // b's heap is behind the flag with which it was called, and the text's head lies behind that.
            int[] due = row[0] == 11 ? new int[] {11, 0, 0, 134} : row;
            poisonedAlone(w, due, row[0] == 11 || row[0] == 12 ? w.b : 2);
        }
    }

    private static void poisonedAlone(World w, int[] row, int poisoned) {
        String what = "code " + row[0];
        w.latestIs(C, what, row[0], row[3], poisoned);
        for (int i = 0; i < 3; i++) {
            C.due(what + ": state of " + i, w.x.state(i, 0), i == poisoned ? 2 : 0);
            C.due(what + ": heap of " + i, w.x.state(i, 1), 128);
            w.handleIs(C, what, i, 1, 3 * i, 0, 1, 0);
        }
        C.due(what + ": depth", w.x.depth(), 0);
    }

    private static void trapOnAnEmptyStack() {
        C.sentence("Promise 17: IllegalStateException: the stack is empty");
        World w = new World();
        C.refused("at first", Checks.STATE, w.x::trap);
        w.x.enter(w.a);
        w.x.trap();
        C.refused("after a trap", Checks.STATE, w.x::trap);
        w.x.enter(w.b);
        w.x.leave();
        C.refused("after leave", Checks.STATE, w.x::trap);
        w.latestIs(C, "the one that was", 13, 0, w.a);
    }

    private static void trapOfTheTop() {
        C.sentence("Promise 17: The top makes a trap by itself: 13 at place 0; it poisons the top");
        World one = new World();
        one.x.enter(one.b);
        one.x.trap();
        one.latestIs(C, "alone", 13, 0, one.b);
        C.due("poisoned", one.x.state(one.b, 0), 2);
        World three = chain();
        three.x.trap();
        three.latestIs(C, "the third", 13, 0, 2);
        World two = chain();
        two.x.back(World.FLAG, 0);
        two.x.trap();
        two.latestIs(C, "the second", 13, 0, 1);
        C.due("the third is ready", two.x.state(2, 0), 0);
    }

    private static void othersAreReadyAgain() {
        C.sentence("All others on the stack are ready again, and the stack is empty");
        World w = chain();
        w.x.trap();
        int[] states = {0, 0, 2, 0};
        for (int i = 0; i < 4; i++) {
            C.due("state of " + i, w.x.state(i, 0), states[i]);
            C.due("level " + i, w.x.level(i), HostedCalls.NONE);
        }
        C.due("depth", w.x.depth(), 0);
        w.x.enter(1);
        C.due("they may call one another again", w.x.call(0, World.FLAG, 0), 0);
        C.refused("but not the poisoned one", Checks.NO_ELEMENT, () -> w.x.call(2, World.FLAG, 0));
    }

    private static void othersStayAsTheyAre() {
        C.sentence("A TRAP has .. an instance that is POISONED by it (and no other one)");
        World w = chain();
        w.x.trap();
        w.x.close(3);
        w.x.enter(0);
        w.x.call(1, World.FLAG, 0);
        w.x.trap();
        int[] states = {0, 2, 2, 3};
        for (int i = 0; i < 4; i++) {
            C.due("state of " + i, w.x.state(i, 0), states[i]);
        }
    }

    private static void heapsAre128() {
        C.sentence("all heaps are 128");
        World w = chain();
        w.x.back(World.FLAG, 0);
        w.x.call(3, World.FLAG, 0);
        int[] before = {128, 130, 128, 129};
        for (int i = 0; i < 4; i++) {
            C.due("heap of " + i + " before", w.x.state(i, 1), before[i]);
        }
        w.x.trap();
        for (int i = 0; i < 4; i++) {
            C.due("heap of " + i, w.x.state(i, 1), 128);
        }
    }

    private static void lentHandlesAreInUseNoMore() {
        C.sentence("handles that were lent are in use no more, so there are no loans");
        World w = new World();
        int third = w.x.instance();
        int twice = w.record(World.BORROW_0, World.BORROW_0);
        int f = w.function(twice, World.FLAG);
        int g = w.x.function(third, twice, World.FLAG);
        w.own(w.a, 0, 0);
        w.put(w.a, 0, 1, 2);
        w.x.enter(w.a);
        w.x.call(f, twice, 0);
        w.put(w.b, 0, 2, 2);
        w.x.call(g, twice, 0);
        w.handleIs(C, "b's has loans before", w.b, 2, 1, 0, 0, 2);
        w.x.trap();
        w.handleIs(C, "a's first", w.a, 1, 0, 0, 1, 0);
        w.handleIs(C, "a's second", w.a, 2, 1, 0, 1, 0);
        C.due("b's", w.x.state(w.b, 2), 0);
        C.due("the third one's", w.x.state(third, 2), 0);
        C.due("nothing is gone", w.x.resources(0, true), 0);
        w.x.enter(w.a);
        C.due("call again", w.x.call(f, twice, 0), 0);
        w.handleIs(C, "b's have no loans of before", w.b, 2, 1, 0, 0, 0);
        w.handleIs(C, "a's has one", w.a, 2, 1, 0, 1, 1);
    }

    private static void takenOnesAreOwnedAsBefore() {
        C.sentence("of what was being passed, what was taken is owned as before");
        int[][] lasts = {{World.FLAG, 2}, {World.LETTER, 3}, {World.TEXT, 1}, {World.OWN_1, 6}};
        for (int[] last : lasts) {
            for (boolean asResult : Passing.WAYS) {
                Passing p = new Passing(asResult);
                p.w.own(p.from, 0, 0, 3);
                int t = p.w.record(World.OWN_0, World.OWN_0, last[0]);
                C.due("code", p.passed(t, 0, 1, 2, 255, 255, 255, 255, 255, 255), last[1]);
                p.w.handleIs(C, "the first", p.from, 1, 0, 0, 1, 0);
                p.w.handleIs(C, "the second", p.from, 2, 1, 0, 1, 0);
                C.due("all three", p.x.state(p.from, 2), 3);
                C.due("none", p.x.state(p.to, 2), 0);
                C.due("they can be destroyed", p.x.close(p.from), 3);
            }
        }
    }

    private static void madeHandlesAreNotInUse() {
        C.sentence("of what was being passed, .. handles that were made are not in use");
        for (boolean asResult : Passing.WAYS) {
            Passing p = new Passing(asResult);
            p.w.own(p.to, 3);
            p.w.own(p.from, 0, 0);
            int t = p.w.record(World.OWN_0, World.OWN_0, World.TEXT);
            p.trapped(C, "no room for the text", p.passed(t, 0, 2, 1, 16, 0, 200, 0), 11, 134);
            p.w.handleIs(C, "its own", p.to, 1, 0, 3, 1, 0);
            p.w.handleIs(C, "made for the first", p.to, 2);
            p.w.handleIs(C, "made for the second", p.to, 3);
            p.w.memoryIs(C, "their numbers stay written", p.to, 128, 2, 3);
            p.w.handleIs(C, "owned as before", p.from, 1, 1, 0, 1, 0);
            p.w.handleIs(C, "owned as before", p.from, 2, 2, 0, 1, 0);
            C.due("there are", p.x.resources(0, false), 2);
            C.due("closing the receiver destroys its own alone", p.x.close(p.to), 1);
        }
    }

    private static void whatWasPassedBeforeStays() {
        C.sentence("of what was being passed, what was taken is owned as before (what was passed before is moved)");
        World w = new World();
        int f = w.function(World.OWN_0, World.OWN_0);
        w.own(w.a, 0);
        w.put(w.a, 0, 1);
        w.x.enter(w.a);
        w.x.call(f, World.OWN_0, 0);
        C.due("back with no handle", w.x.back(World.OWN_0, 9), 6);
        w.handleIs(C, "a's is moved", w.a, 1);
        w.handleIs(C, "b has it", w.b, 1, 0, 0, 1, 0);
    }

    private static void latestAtFirst() {
        C.sentence("Promise 24: 0, 0 and NONE when there was none");
        World w = new World();
        w.latestIs(C, "at first", 0, 0, HostedCalls.NONE);
        w.callWith(World.FLAG, 0);
        w.x.back(World.FLAG, 0);
        w.x.leave();
        w.latestIs(C, "after calls without a trap", 0, 0, HostedCalls.NONE);
        C.refused("a call that throws", Checks.STATE, w.x::trap);
        w.latestIs(C, "after one that throws", 0, 0, HostedCalls.NONE);
    }

    private static void latestOfNoSuchWhat() {
        C.sentence("Promise 24: IllegalArgumentException: there is no such what");
        World w = new World();
        for (int what : new int[] {LEAST, -1, 3, 4, 256, MOST}) {
            C.refused("before a trap, what " + what, Checks.ARGUMENT, () -> w.x.latest(what));
        }
        w.x.enter(w.a);
        w.x.trap();
        for (int what : new int[] {LEAST, -1, 3, 4, 256, MOST}) {
            C.refused("after a trap, what " + what, Checks.ARGUMENT, () -> w.x.latest(what));
        }
    }

    private static void latestIsTheLatest() {
        C.sentence("Promise 24: Of the latest trap: 0 its code, 1 its place, 2 the instance that was poisoned");
        World w = chain();
        w.x.call(3, World.FLAG, 999);
        w.latestIs(C, "the first trap", 1, 999, 2);
        w.x.enter(0);
        w.x.call(0, World.FLAG, LEAST);
        w.latestIs(C, "the second", 14, LEAST, 0);
        w.x.close(0);
        w.latestIs(C, "it stays when that one is closed", 14, LEAST, 0);
        w.x.enter(1);
        w.x.call(3, World.FLAG, 0);
        w.x.back(World.FLAG, MOST);
        w.latestIs(C, "the third", 1, MOST, 3);
        w.x.enter(1);
        w.x.trap();
        w.latestIs(C, "the fourth", 13, 0, 1);
    }
}

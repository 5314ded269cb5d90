/** Promise 15: call, and how a value is read with all its checks and laid out anew. */
public final class CallTest {
    private static final Checks C = new Checks();

    public static void main(String[] args) {
        callRefusesInOrder();
        callOfOneThatRuns();
        callRuns();
        numbersAreChecked();
        lettersAreChecked();
        placesAreChecked();
        textsArePassed();
        textsAreChecked();
        listsArePassed();
        itemsAreCounted();
        recordsArePassedInTheOtherWay();
        variantsArePassed();
        handlesAreChecked();
        ownedOnesAreMoved();
        borrowedOnesAreLent();
        roomIsMade();
        handlesRunOut();
        C.end();
    }

    private static void callRefusesInOrder() {
        World w = new World();
        int f = w.function(World.BYTE, World.BYTE);
        C.refused("nothing runs", Checks.STATE, () -> w.x.call(99, 99, 0));
        w.x.enter(w.a);
        C.refused("no function", Checks.ARGUMENT, () -> w.x.call(1, World.BYTE, 0));
        C.refused("no function -1", Checks.ARGUMENT, () -> w.x.call(-1, World.BYTE, 0));
        C.refused("no type", Checks.ARGUMENT, () -> w.x.call(f, 99, 0));
        C.refused("it does not fit", Checks.UNSUPPORTED, () -> w.x.call(f, World.FLAG, 0));
        w.x.close(w.b);
        C.refused("it does not fit", Checks.UNSUPPORTED, () -> w.x.call(f, World.FLAG, 0));
        C.refused("closed", Checks.NO_ELEMENT, () -> w.x.call(f, World.BYTE, -1));
        C.due("nothing has changed", w.x.depth(), 1);
        C.due("there was no trap", w.x.latest(0), 0);
        World v = new World();
        int g = v.function(World.BYTE, World.BYTE);
        v.x.enter(v.b);
        v.x.trap();
        v.x.enter(v.a);
        C.refused("poisoned", Checks.NO_ELEMENT, () -> v.x.call(g, World.BYTE, 0));
    }

    private static void callOfOneThatRuns() {
        World w = new World();
        int own = w.x.function(w.a, World.BYTE, World.BYTE);
        int f = w.function(World.BYTE, World.BYTE);
        w.x.enter(w.a);
        C.refused("it does not fit", Checks.UNSUPPORTED, () -> w.x.call(own, World.FLAG, 0));
        w.x.call(f, World.BYTE, 0);
        C.due("b calls a", w.x.call(own, World.BYTE, -77), 14);
        w.latestIs(C, "b calls a", 14, -77, w.b);
        C.due("a is ready", w.x.state(w.a, 0), 0);
        C.due("the stack is empty", w.x.depth(), 0);
        w.x.enter(w.a);
        C.due("a calls itself", w.x.call(own, World.BYTE, 256), 14);
        w.latestIs(C, "a calls itself", 14, 256, w.a);
        C.due("a is poisoned", w.x.state(w.a, 0), 2);
    }

    private static void callRuns() {
        World w = new World();
        w.put(w.a, 40, 99);
        C.due("call", w.callWith(World.BYTE, 40), 0);
        C.due("b runs", w.x.state(w.b, 0), 1);
        C.due("a runs", w.x.state(w.a, 0), 1);
        C.due("b is the top", w.x.level(1), w.b);
        C.due("passed", w.x.passed(), 128);
        w.memoryIs(C, "the value", w.b, 127, 0, 99, 0);
        C.due("heap", w.x.state(w.b, 1), 129);
    }

    /** Lays bytes at a place of a, and calls with a value of a type there. */
    private static World passing(int t, int due, int place, int at, int... bytes) {
        World w = new World();
        w.put(w.a, at, bytes);
        trapIs(w, "type " + t + " at " + at, w.callWith(t, at), due, place);
        return w;
    }

    /** A trap of the reading kinds, which poisons a; or none, when 0 is due. */
    private static void trapIs(World w, String what, int got, int due, int place) {
        C.due(what, got, due);
        if (due == 0) {
            C.due(what + ": no trap", w.x.latest(2), HostedCalls.NONE);
        } else {
            w.latestIs(C, what, due, place, w.a);
            C.due(what + ": a is poisoned", w.x.state(w.a, 0), 2);
            C.due(what + ": b is ready", w.x.state(w.b, 0), 0);
            w.memoryIs(C, what + ": nothing was written", w.b, 128, 0, 0, 0, 0);
        }
    }

    private static void numbersAreChecked() {
        passing(World.FLAG, 0, 0, 9, 0);
        passing(World.FLAG, 0, 0, 9, 1);
        passing(World.FLAG, 2, 9, 9, 2);
        passing(World.FLAG, 2, 9, 9, 255);
        passing(World.CHOICE_3, 0, 0, 9, 2);
        passing(World.CHOICE_3, 2, 9, 9, 3);
        World w = passing(World.CHOICE_9, 0, 0, 9, 8);
        w.memoryIs(C, "choice", w.b, 128, 8);
        w = passing(World.SHORT, 0, 0, 8, 0xFE, 0xFF, 1);
        w.memoryIs(C, "short", w.b, 128, 0xFE, 0xFF, 0);
        w = passing(World.WORD, 0, 0, 8, 0xFE, 0xFF, 0xFD, 0xFC, 1);
        w.memoryIs(C, "word", w.b, 128, 0xFE, 0xFF, 0xFD, 0xFC, 0);
        w = passing(World.LONG, 0, 0, 8, 1, 2, 3, 4, 5, 6, 7, 0x88, 9);
        w.memoryIs(C, "long", w.b, 128, 1, 2, 3, 4, 5, 6, 7, 0x88, 0);
        World v = new World();
        v.put(v.a, 0, 3);
        C.due("the n of t counts, not of u", v.callWith(World.CHOICE_3, World.CHOICE_9, 0), 2);
    }

    private static void lettersAreChecked() {
        long[][] letters = {{0, 0}, {55295, 0}, {55296, 3}, {57343, 3}, {57344, 0}, {1114111, 0}, {1114112, 3},
            {-1, 3}, {0x80000041L, 3}};
        for (long[] letter : letters) {
            World w = new World();
            w.x.write(w.a, 252, 4, letter[0]);
            trapIs(w, "letter " + letter[0], w.callWith(World.LETTER, 252), (int) letter[1], 252);
        }
    }

    private static void placesAreChecked() {
        int[][] places = {{World.BYTE, 255, 0, 0}, {World.BYTE, 256, 1, 256}, {World.BYTE, -1, 1, -1},
            {World.BYTE, Integer.MAX_VALUE, 1, Integer.MAX_VALUE}, {World.BYTE, Integer.MIN_VALUE, 1, Integer.MIN_VALUE},
            {World.SHORT, 254, 0, 0}, {World.SHORT, 255, 5, 255}, {World.SHORT, 257, 5, 257}, {World.SHORT, -1, 5, -1},
            {World.SHORT, -2, 1, -2}, {World.WORD, 250, 5, 250}, {World.WORD, 256, 1, 256}, {World.LONG, 252, 5, 252},
            {World.LONG, -8, 1, -8}, {World.LONG, Integer.MIN_VALUE, 1, Integer.MIN_VALUE}, {World.LETTER, 2, 5, 2},
            {World.TEXT, 1, 5, 1}, {World.TEXT, 2, 0, 0}, {World.TEXT, 252, 0, 0}, {World.TEXT, 254, 1, 256},
            {World.TEXT, -2, 1, -2}};
        for (int[] place : places) {
            World w = new World();
            trapIs(w, "type " + place[0] + " at " + place[1], w.callWith(place[0], place[1]), place[2], place[3]);
        }
    }

    private static void textsArePassed() {
        World w = passing(World.TEXT, 0, 0, 0, 20, 0, 3, 0);
        w.memoryIs(C, "text", w.b, 128, 132, 0, 3, 0, 0, 0, 0, 0);
        C.due("heap", w.x.state(w.b, 1), 135);
        World v = new World();
        v.put(v.a, 246, 'a', 0xC3, 0xA4, 0xE2, 0x82, 0xAC, 0xF0, 0x9F, 0x98, 0x80);
        v.put(v.a, 0, 246, 0, 10, 0);
        C.due("up to the last byte", v.callWith(World.TEXT, 0), 0);
        v.memoryIs(C, "text", v.b, 128, 132, 0, 10, 0, 'a', 0xC3, 0xA4, 0xE2, 0x82, 0xAC, 0xF0, 0x9F, 0x98, 0x80, 0);
        passing(World.TEXT, 0, 0, 0, 0xFF, 0xFF, 0, 0);
        passing(World.TEXT, 1, 0xFFFF, 0, 0xFF, 0xFF, 1, 0);
        passing(World.TEXT, 1, 256, 0, 254, 0, 3, 0);
        passing(World.TEXT, 1, 256, 0, 200, 0, 0xFF, 0xFF);
    }

    private static void textsAreChecked() {
        // Each row: the due code, the place behind 64, and the text, which has no bytes behind it.
        int[][] texts = {{0, 0, 127}, {4, 0, 128}, {4, 0, 193, 128}, {0, 0, 194, 128}, {0, 0, 223, 191}, {4, 0, 194, 127},
            {4, 0, 194, 192}, {4, 0, 194}, {4, 1, 65, 194}, {0, 0, 224, 160, 128}, {4, 0, 224, 159, 128},
            {0, 0, 224, 191, 191}, {0, 0, 225, 128, 128}, {0, 0, 236, 191, 128}, {0, 0, 237, 159, 191},
            {4, 0, 237, 160, 128}, {0, 0, 238, 160, 128}, {0, 0, 239, 191, 191}, {4, 0, 239, 191, 192},
            {4, 0, 239, 191, 127}, {4, 0, 239, 191}, {4, 0, 240, 143, 128, 128}, {0, 0, 240, 144, 128, 128},
            {0, 0, 241, 128, 128, 128}, {0, 0, 243, 191, 191, 191}, {0, 0, 244, 143, 191, 191}, {4, 0, 244, 144, 128, 128},
            {4, 0, 245, 128, 128, 128}, {4, 0, 255}, {4, 0, 240, 144, 128}, {4, 0, 240, 144, 128, 192},
            {4, 0, 240, 144, 127, 128}, {4, 3, 65, 194, 128, 224, 160, 65}, {4, 2, 65, 66, 191, 67}, {0, 0, 0, 0}};
        for (int[] row : texts) {
            World w = new World();
            int count = row.length - 2;
            w.put(w.a, 0, 64, 0, count, 0);
            for (int k = 0; k < count; k++) {
                w.put(w.a, 64 + k, row[2 + k]);
            }
            trapIs(w, "text " + java.util.Arrays.toString(row), w.callWith(World.TEXT, 0), row[0], 64 + row[1]);
        }
        World atEnd = new World();
        atEnd.put(atEnd.a, 255, 0xC3);
        atEnd.put(atEnd.a, 0, 255, 0, 2, 0);
        trapIs(atEnd, "the next byte is outside", atEnd.callWith(World.TEXT, 0), 1, 256);
        World wrongFirst = new World();
        wrongFirst.put(wrongFirst.a, 254, 0xE0, 0x80);
        wrongFirst.put(wrongFirst.a, 0, 254, 0, 9, 0);
        trapIs(wrongFirst, "the wrong byte comes before the end", wrongFirst.callWith(World.TEXT, 0), 4, 254);
        World shortText = new World();
        shortText.put(shortText.a, 255, 0xC3);
        shortText.put(shortText.a, 0, 255, 0, 1, 0);
        trapIs(shortText, "the text ends before the memory does", shortText.callWith(World.TEXT, 0), 4, 255);
    }

    private static void listsArePassed() {
        World w = new World();
        int words = w.list(World.WORD);
        int lists = w.list(words);
        w.put(w.a, 0, 8, 0, 2, 0);
        w.put(w.a, 8, 16, 0, 1, 0, 20, 0, 2, 0);
        w.put(w.a, 16, 1, 0, 0, 0, 2, 0, 0, 0, 3, 0, 0, 9);
        C.due("lists in a list", w.callWith(lists, 0), 0);
        // The inner lists' values lie behind all of the outer one's, each behind the one before, on multiples of 4.
        w.memoryIs(C, "lists", w.b, 128, 132, 0, 2, 0, 140, 0, 1, 0, 144, 0, 2, 0, 1, 0, 0, 0, 2, 0, 0, 0, 3, 0, 0, 9, 0);
        C.due("heap", w.x.state(w.b, 1), 152);
        World v = new World();
        int longs = v.list(World.LONG);
        v.put(v.a, 0, 0xFF, 0xFF, 0, 0);
        C.due("an empty list", v.callWith(longs, 0), 0);
        v.memoryIs(C, "an empty list", v.b, 128, 136, 0, 0, 0);
        C.due("its values' alignment counts", v.x.state(v.b, 1), 136);
        World crooked = new World();
        int shorts = crooked.list(World.SHORT);
        crooked.put(crooked.a, 0, 7, 0, 1, 0);
        trapIs(crooked, "values at an odd place", crooked.callWith(shorts, 0), 5, 7);
        World outside = new World();
        int bytes = outside.list(World.BYTE);
        outside.put(outside.a, 0, 250, 0, 7, 0);
        trapIs(outside, "values beyond the end", outside.callWith(bytes, 0), 1, 256);
    }

    private static void itemsAreCounted() {
        World w = new World();
        int bytes = w.list(World.BYTE);
        w.put(w.a, 0, 4, 0, 200, 0);
        trapIs(w, "201 items", w.callWith(bytes, 0), 10, 4 + 199);
        World fine = new World();
        int flags = fine.list(World.FLAG);
        fine.put(fine.a, 0, 4, 0, 199, 0);
        C.due("200 items, but no room", fine.callWith(flags, 0), 11);
        fine.latestIs(C, "200 items", 11, 132, fine.b);
        World place = new World();
        int longs = place.list(World.LONG);
        int twice = place.record(longs, longs, longs, longs, longs, longs);
        for (int k = 0; k < 6; k++) {
            place.put(place.a, 4 * k, 24, 0, 29, 0);
        }
        place.put(place.a, 20, 31, 0, 255, 0);
        // 1 + 5 * 30 + 1 items stand before the last list's values, the first of which is at an odd place.
        trapIs(place, "alignment comes second", place.callWith(twice, 0), 5, 31);
        World both = new World();
        int many = both.record(both.list(World.BYTE), both.list(World.LONG));
        both.put(both.a, 0, 4, 0, 197, 0, 255, 255, 1, 0);
        trapIs(both, "the count comes first", both.callWith(many, 0), 10, 65535);
    }

    private static void recordsArePassedInTheOtherWay() {
        World w = new World();
        int t = w.record(World.BYTE, World.SHORT, World.LONG, World.FLAG);
        int u = w.record(World.BYTE, World.SHORT);
        int ts = w.list(t);
        int us = w.list(u);
        w.put(w.a, 0, 8, 0, 2, 0);
        w.put(w.a, 8, 1, 99, 2, 3);
        w.put(w.a, 24, 77);
        w.put(w.a, 32, 4, 99, 5, 6);
        w.put(w.a, 48, 78);
        C.due("parts that u has not are not read", w.callWith(ts, us, 0), 0);
        w.memoryIs(C, "what lies between is 0", w.b, 128, 132, 0, 2, 0, 1, 0, 2, 3, 4, 0, 5, 6, 0);
        C.due("heap", w.x.state(w.b, 1), 140);
        World v = new World();
        int r = v.record(World.FLAG, World.FLAG);
        v.put(v.a, 3, 1, 5);
        trapIs(v, "the second part", v.callWith(r, 3), 2, 4);
        World c = new World();
        int wide = c.record(World.BYTE, World.LONG);
        int narrow = c.record(World.BYTE);
        trapIs(c, "t's alignment counts", c.callWith(wide, narrow, 4), 5, 4);
    }

    private static void variantsArePassed() {
        World w = new World();
        int t = w.variant(World.FLAG, World.SHORT);
        int u = w.variant(World.FLAG, World.SHORT, World.LONG);
        w.put(w.a, 6, 1, 99, 3, 4);
        w.put(w.b, 128, 9, 9, 9, 9, 9, 9, 9, 9, 9, 9, 9, 9, 9, 9, 9, 9, 9);
        C.due("variant", w.callWith(t, u, 6), 0);
        w.memoryIs(C, "u's offset", w.b, 128, 1, 0, 0, 0, 0, 0, 0, 0, 3, 4, 0, 0, 0, 0, 0, 0, 9);
        World v = new World();
        int two = v.variant(World.FLAG, World.SHORT);
        int three = v.variant(World.FLAG, World.SHORT, World.LONG);
        v.put(v.a, 6, 2);
        trapIs(v, "no such case of t", v.callWith(two, three, 6), 2, 6);
        World c = new World();
        int flags = c.variant(World.FLAG, World.FLAG);
        c.put(c.a, 7, 1, 2);
        trapIs(c, "the case's own trap", c.callWith(flags, 7), 2, 8);
        World end = new World();
        int atEnd = end.variant(World.FLAG, World.SHORT);
        trapIs(end, "the part is outside", end.callWith(atEnd, 254), 1, 256);
    }

    private static void handlesAreChecked() {
        int[][] handles = {{World.OWN_0, 0, 6}, {World.OWN_0, 3, 6}, {World.OWN_0, 17, 6}, {World.OWN_0, 255, 6},
            {World.OWN_0, 2, 7}, {World.OWN_1, 1, 7}, {World.BORROW_0, 0, 6}, {World.BORROW_0, 2, 7},
            {World.BORROW_1, 3, 6}, {World.OWN_0, 1, 0}, {World.OWN_1, 2, 0}, {World.BORROW_1, 2, 0}};
        for (int[] row : handles) {
            World w = new World();
            w.x.enter(w.a);
            w.x.make(0);
            w.x.make(1);
            w.put(w.a, 33, row[1]);
            trapIs(w, "type " + row[0] + " of handle " + row[1], w.callWith(row[0], 33), row[2], 33);
        }
        World last = new World();
        last.x.enter(last.a);
        for (int h = 1; h <= 16; h++) {
            last.x.make(0);
        }
        last.put(last.a, 33, 16);
        trapIs(last, "the last handle", last.callWith(World.OWN_0, 33), 0, 0);
        pairIs(World.OWN_0, World.OWN_0, 6);
        pairIs(World.OWN_0, World.BORROW_0, 6);
        pairIs(World.BORROW_0, World.OWN_0, 9);
        pairIs(World.BORROW_0, World.BORROW_0, 0);
        lentOnesAreNotMoved();
    }

    /** The same handle twice in one value. */
    private static void pairIs(int first, int second, int due) {
        World w = new World();
        int pair = w.record(first, second);
        w.x.enter(w.a);
        w.x.make(0);
        w.put(w.a, 10, 1, 1);
        trapIs(w, first + " and " + second, w.callWith(pair, 10), due, 11);
        w.handleIs(C, "it is owned as before", w.a, 1, 0, 0, 1, due == 0 ? 2 : 0);
    }

    private static void lentOnesAreNotMoved() {
        World w = new World();
        C.due("it is lent", lentOneCalledWith(w, World.OWN_0), 8);
        w.latestIs(C, "it is lent", 8, 50, w.b);
        w.handleIs(C, "the lent one", w.b, 1);
        w.handleIs(C, "the lender's", w.a, 1, 0, 0, 1, 0);
        C.due("the kind comes first", lentOneCalledWith(new World(), World.OWN_1), 7);
    }

    /** a lends b a resource of kind 0, and b calls a third one with that handle, as a value of a type. */
    private static int lentOneCalledWith(World w, int t) {
        int f = w.x.function(w.x.instance(), t, World.FLAG);
        w.x.enter(w.a);
        w.x.make(0);
        w.put(w.a, 0, 1);
        w.callWith(World.BORROW_0, 0);
        w.put(w.b, 50, 1);
        return w.x.call(f, t, 50);
    }

    private static void ownedOnesAreMoved() {
        World w = new World();
        int owns = w.list(World.OWN_0);
        w.x.enter(w.b);
        w.x.make(3);
        w.x.make(3);
        w.x.drop(1);
        w.x.leave();
        w.x.enter(w.a);
        w.x.make(0);
        w.x.make(0);
        w.x.make(0);
        w.put(w.a, 0, 8, 0, 2, 0);
        w.put(w.a, 8, 3, 1);
        C.due("call", w.callWith(owns, 0), 0);
        w.handleIs(C, "moved", w.a, 1);
        w.handleIs(C, "kept", w.a, 2, 3, 0, 1, 0);
        w.handleIs(C, "moved", w.a, 3);
        w.handleIs(C, "the lowest one first", w.b, 1, 4, 0, 1, 0);
        w.handleIs(C, "b's own", w.b, 2, 1, 3, 1, 0);
        w.handleIs(C, "then the next", w.b, 3, 2, 0, 1, 0);
        w.memoryIs(C, "their numbers", w.b, 132, 1, 3);
        C.due("in use", w.x.state(w.a, 2), 1);
        C.due("in use", w.x.state(w.b, 2), 3);
    }

    private static void borrowedOnesAreLent() {
        World w = new World();
        int third = w.x.instance();
        int g = w.x.function(third, World.BORROW_0, World.FLAG);
        int pair = w.record(World.BORROW_0, World.BORROW_0);
        w.x.enter(w.a);
        w.x.make(0);
        w.put(w.a, 0, 1, 1);
        C.due("lent twice", w.callWith(pair, 0), 0);
        w.memoryIs(C, "their numbers", w.b, 128, 1, 2);
        w.handleIs(C, "two loans", w.a, 1, 0, 0, 1, 2);
        w.put(w.b, 0, 2);
        C.due("lent on", w.x.call(g, World.BORROW_0, 0), 0);
        w.handleIs(C, "the owner's loans are as before", w.a, 1, 0, 0, 1, 2);
        w.handleIs(C, "not lent on", w.b, 1, 0, 0, 0, 0);
        w.handleIs(C, "lent on", w.b, 2, 0, 0, 0, 1);
        w.handleIs(C, "the last one", third, 1, 0, 0, 0, 0);
        C.due("the last one is dropped", w.x.drop(1), false);
        w.handleIs(C, "lent on no more", w.b, 2, 0, 0, 0, 0);
        w.handleIs(C, "the owner's loans are as before", w.a, 1, 0, 0, 1, 2);
    }

    private static void roomIsMade() {
        World w = new World();
        w.put(w.a, 0, 4, 0, 124, 0);
        C.due("up to the last byte", w.callWith(World.TEXT, 0), 0);
        C.due("the heap is full", w.x.state(w.b, 1), 256);
        World over = new World();
        over.put(over.a, 0, 4, 0, 125, 0);
        over.put(over.b, 128, 9, 9, 9, 9, 9);
        C.due("a byte more", over.callWith(World.TEXT, 0), 11);
        over.latestIs(C, "a byte more", 11, 132, over.b);
        over.memoryIs(C, "what was written stays", over.b, 128, 0, 0, 0, 0, 9);
        C.due("b is poisoned", over.x.state(over.b, 0), 2);
        C.due("a is ready", over.x.state(over.a, 0), 0);
        C.due("heap", over.x.state(over.b, 1), 128);
        World list = new World();
        int longs = list.list(World.LONG);
        list.put(list.a, 0, 8, 0, 16, 0);
        C.due("no room for the values", list.callWith(longs, 0), 11);
        list.latestIs(C, "the place is aligned", 11, 136, list.b);
        World half = new World();
        int two = half.record(World.TEXT, World.TEXT);
        half.put(half.a, 0, 8, 0, 2, 0, 8, 0, 127, 0, 'x', 'y');
        C.due("no room for the second text", half.callWith(two, 0), 11);
        half.latestIs(C, "the second text", 11, 138, half.b);
        half.memoryIs(C, "the first one stays", half.b, 128, 136, 0, 2, 0, 0, 0, 0, 0, 'x', 'y', 0);
    }

    private static void handlesRunOut() {
        World w = new World();
        int three = w.record(World.OWN_0, World.BORROW_1, World.OWN_0);
        w.x.enter(w.b);
        for (int h = 0; h < 14; h++) {
            w.x.make(3);
        }
        w.x.leave();
        w.x.enter(w.a);
        w.x.make(0);
        w.x.make(1);
        w.x.make(0);
        w.put(w.a, 70, 1, 2, 3);
        C.due("no handle left", w.callWith(three, 70), 12);
        w.latestIs(C, "no handle left", 12, 72, w.b);
        w.handleIs(C, "as before", w.a, 1, 14, 0, 1, 0);
        w.handleIs(C, "as before", w.a, 2, 15, 1, 1, 0);
        w.handleIs(C, "as before", w.a, 3, 16, 0, 1, 0);
        C.due("b has what it had", w.x.state(w.b, 2), 14);
        w.handleIs(C, "not in use", w.b, 15);
        w.handleIs(C, "not in use", w.b, 16);
        w.memoryIs(C, "what was written stays", w.b, 128, 15, 16, 0);
        C.due("a is ready", w.x.state(w.a, 0), 0);
        C.due("b is poisoned", w.x.state(w.b, 0), 2);
        C.due("close b", w.x.close(w.b), 14);
    }
}

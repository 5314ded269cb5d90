import java.util.Arrays;

/** The edges of writing a value: 'Then it is WRITTEN' in Terms. Each method tests one sentence. */
public final class WriteEdgesTest {
    private static final Checks C = new Checks();

    public static void main(String[] args) {
        roomBeginsAtAMultiple();
        roomEndsAt256();
        noRoomForTheValue();
        roomForTheLargestValue();
        roomForTextsEndsAt256();
        roomForListsEndsAt256();
        roomForNothing();
        roomBecomesNought();
        nothingElseIsWritten();
        heapIsBehindTheRoom();
        roomIsMadeByU();
        roomOfTextsIsNotAligned();
        roomOfListsIsAlignedByThePart();
        recordsAreWrittenInUsWay();
        variantsAreWrittenInUsWay();
        itemsAreWrittenInOrder();
        theWholeIsReadFirst();
        theLowestHandleIsUsed();
        noHandleIsLeft();
        noHandleIsLeftForABorrow();
        handlesAndRoomInOrder();
        whatWasTakenIsNotInUse();
        writtenBytesStay();
        C.end();
    }

    /** a runs, and its heap is at this place, by what b has given back to it: nothing but zeros. */
    private static World withHeap(int heap) {
        World w = new World();
        int bytes = w.function(World.FLAG, World.BYTE);
        int texts = w.function(World.FLAG, World.TEXT);
        w.x.enter(w.a);
        for (int k = 128; k < heap && heap < 132; k++) {
            w.x.call(bytes, World.FLAG, 0);
            w.x.back(World.BYTE, 0);
        }
        if (heap >= 132) {
            w.x.call(texts, World.FLAG, 0);
            w.x.write(w.b, 0, 4, 4 | (long) (heap - 132) << 16);
            w.x.back(World.TEXT, 0);
            w.x.write(w.b, 0, 4, 0);
        }
        C.due("the heap is set", w.x.state(w.a, 1), heap);
        return w;
    }

    /** b gives a value of type t, at its place 0, back to a as a u: the answer. */
    private static int given(World w, int t, int u) {
        w.x.call(w.function(World.FLAG, u), World.FLAG, 255);
        return w.x.back(t, 0);
    }

    private static void laidAt(World w, String what, int answer, int place, int heap) {
        C.due(what, answer, 0);
        C.due(what + ": passed()", w.x.passed(), place);
        C.due(what + ": heap", w.x.state(w.a, 1), heap);
    }

    private static void noRoomAt(World w, String what, int answer, int place) {
        C.due(what, answer, 11);
        w.latestIs(C, what, 11, place, w.a);
        C.due(what + ": a is poisoned", w.x.state(w.a, 0), 2);
        C.due(what + ": b is ready", w.x.state(w.b, 0), 0);
        C.due(what + ": heap", w.x.state(w.a, 1), 128);
    }

    private static int up(int place, int alignment) {
        return (place + alignment - 1) / alignment * alignment;
    }

    private static void roomBeginsAtAMultiple() {
        C.sentence("TO MAKE ROOM .. the least place from the heap on that is a multiple of the alignment");
        int[][] rows = {{World.BYTE, 1}, {World.SHORT, 2}, {World.WORD, 4}, {World.LONG, 8}, {World.LETTER, 4}};
        for (int[] row : rows) {
            for (int heap = 128; heap <= 240; heap++) {
                World w = withHeap(heap);
                int place = up(heap, row[1]);
                laidAt(w, "type " + row[0] + " from " + heap, given(w, row[0], row[0]), place, place + row[1]);
            }
        }
    }

    private static void roomEndsAt256() {
        C.sentence("if the bytes do not end there at 256 or before (those that end at 256 have room)");
        int[][] rows = {{World.BYTE, 1}, {World.SHORT, 2}, {World.WORD, 4}, {World.LONG, 8}, {World.LETTER, 4},
            {World.FLAG, 1}, {World.CHOICE_3, 1}};
        for (int[] row : rows) {
            World w = withHeap(256 - row[1]);
            laidAt(w, "type " + row[0], given(w, row[0], row[0]), 256 - row[1], 256);
        }
    }

    private static void noRoomForTheValue() {
        C.sentence("if the bytes do not end there at 256 or before, a trap, 11 at that place");
        int[][] rows = {{World.BYTE, 1}, {World.SHORT, 2}, {World.WORD, 4}, {World.LONG, 8}, {World.LETTER, 4},
            {World.FLAG, 1}, {World.CHOICE_3, 1}};
        for (int[] row : rows) {
            for (int heap = 257 - row[1]; heap <= 256; heap++) {
                World w = withHeap(heap);
                noRoomAt(w, "type " + row[0] + " from " + heap, given(w, row[0], row[0]), 256);
            }
        }
        for (int heap = 253; heap <= 256; heap++) {
            World w = withHeap(heap);
            noRoomAt(w, "text from " + heap, given(w, World.TEXT, World.TEXT), up(heap, 2));
        }
    }

    private static int ofLongs(World w, int count) {
        int[] longs = new int[count];
        Arrays.fill(longs, World.LONG);
        return w.record(longs);
    }

    private static void roomForTheLargestValue() {
        C.sentence("First room is made for the value, by u (a value of 96 bytes)");
        for (int heap : new int[] {128, 129, 152, 153, 160, 161, 168, 256}) {
            World w = withHeap(heap);
            int half = ofLongs(w, 6);
            int t = w.record(half, half);
            int place = up(heap, 8);
            int answer = given(w, t, t);
            if (place <= 160) {
                laidAt(w, "96 bytes from " + heap, answer, place, place + 96);
            } else {
                noRoomAt(w, "96 bytes from " + heap, answer, place);
            }
        }
    }

    private static void roomForTextsEndsAt256() {
        C.sentence("For a text room is made for its bytes (up to 256, else trap 11)");
        for (boolean asResult : Passing.WAYS) {
            for (int count = 120; count <= 128; count++) {
                Passing p = new Passing(asResult);
                int answer = p.passed(World.TEXT, 0, 16, 0, count, 0);
                if (count <= 124) {
                    p.arrived(C, count + " bytes", answer);
                    C.due("heap", p.x.state(p.to, 1), 132 + count);
                } else {
                    p.trapped(C, count + " bytes", answer, 11, 132);
                }
            }
        }
    }

    private static void roomForListsEndsAt256() {
        C.sentence("for a list room for its values (all sizes together; up to 256, else trap 11)");
        int[] sizes = {0, 1, 2, 4, 8};
        int[] most = {0, 124, 62, 31, 15};
        for (boolean asResult : Passing.WAYS) {
            for (int kind = World.BYTE; kind <= World.LONG; kind++) {
                for (int more = 0; more < 2; more++) {
                    Passing p = new Passing(asResult);
                    int answer = p.passed(p.w.list(kind), 0, 8, 0, most[kind] + more, 0);
                    int place = up(132, sizes[kind]);
                    if (more == 0) {
                        p.arrived(C, most[kind] + " of kind " + kind, answer);
                        C.due("heap", p.x.state(p.to, 1), place + most[kind] * sizes[kind]);
                    } else {
                        p.trapped(C, "one more of kind " + kind, answer, 11, place);
                    }
                }
            }
        }
    }

    private static void roomForNothing() {
        C.sentence("TO MAKE ROOM for some bytes (for none at 256)");
        World text = withHeap(252);
        laidAt(text, "an empty text", given(text, World.TEXT, World.TEXT), 252, 256);
        text.memoryIs(C, "an empty text", text.a, 252, 0, 1, 0, 0);
        for (int heap = 246; heap <= 252; heap++) {
            World list = withHeap(heap);
            int longs = list.list(World.LONG);
            int place = up(heap, 2);
            int behind = up(place + 4, 8);
            laidAt(list, "an empty list from " + heap, given(list, longs, longs), place, behind);
            list.memoryIs(C, "an empty list from " + heap, list.a, place, behind & 255, behind >> 8, 0, 0);
        }
    }

    private static void roomBecomesNought() {
        C.sentence("otherwise they become 0");
        for (boolean asResult : Passing.WAYS) {
            Passing p = new Passing(asResult);
            int inner = p.w.record(World.BYTE, World.WORD);
            int t = p.w.record(World.BYTE, World.LONG, p.w.list(inner), p.w.variant(World.BYTE, World.SHORT));
            p.begin(t);
            for (int at = 120; at < 176; at += 8) {
                p.x.write(p.to, at, 8, -1);
            }
            p.put(0, 1);
            p.put(16, 40, 0, 1, 0, 0, 99, 3);
            p.put(40, 5, 99, 99, 99, 6);
            p.arrived(C, "a record", p.pass(t, 0));
            p.w.memoryIs(C, "the byte before", p.to, 127, 255);
            p.w.memoryIs(C, "the record", p.to, 128, 1, 0, 0, 0, 0, 0, 0, 0, 0, 0, 0, 0, 0, 0, 0, 0,
                    152, 0, 1, 0, 0, 0, 3, 0);
            p.w.memoryIs(C, "the list's value", p.to, 152, 5, 0, 0, 0, 6, 0, 0, 0, 255);
        }
    }

    /** A value of each type; every byte of the receiver that is in no room is as before. */
    private static void nothingElseIsWritten() {
        C.sentence("they become 0, and the heap is the place behind them (and no other byte changes)");
        int[] values = {1, 1, 1, 1, 1, 1, 4 | 1 << 16, 1, 1, 1, 2, 1, 2, 4 | 1 << 16, 1 << 8, 1};
        for (boolean asResult : Passing.WAYS) {
            for (int k = 0; k < values.length; k++) {
                Passing p = new Passing(asResult);
                p.w.own(p.from, 0, 1);
                int[] more = {p.w.list(World.BYTE), p.w.record(World.FLAG, World.OWN_0),
                    p.w.variant(World.SHORT, World.BYTE)};
                int t = k < 13 ? k : more[k - 13];
                if (asResult && (t == World.BORROW_0 || t == World.BORROW_1)) {
                    continue;
                }
                p.begin(t);
                for (int at = 0; at < 256; at += 8) {
                    p.x.write(p.to, at, 8, -1);
                }
                p.x.write(p.from, 0, 4, values[k]);
                p.arrived(C, "type " + k, p.pass(t, 0));
                int heap = p.x.state(p.to, 1);
                for (int at = 0; at < 256; at++) {
                    if (at < 128 || at >= heap) {
                        C.due(p.told("type " + k) + ": byte " + at, p.x.read(p.to, at), 255);
                    }
                }
            }
        }
    }

    private static void heapIsBehindTheRoom() {
        C.sentence("and the heap is the place behind them");
        World w = withHeap(128);
        int[] types = {World.BYTE, World.SHORT, World.BYTE, World.LONG, World.BYTE, World.WORD};
        int[] places = {128, 130, 132, 136, 144, 148};
        int[] heaps = {129, 132, 133, 144, 145, 152};
        for (int k = 0; k < types.length; k++) {
            laidAt(w, "result " + k, given(w, types[k], types[k]), places[k], heaps[k]);
        }
    }

    private static void roomIsMadeByU() {
        C.sentence("First room is made for the value, by u");
        World w = withHeap(129);
        int t = w.record(World.BYTE, World.LONG);
        int u = w.record(World.BYTE);
        w.put(w.b, 0, 44);
        laidAt(w, "a record of one byte", given(w, t, u), 129, 130);
        C.due("the byte", w.x.read(w.a, 129), 44);
        World v = withHeap(130);
        int one = v.variant(World.BYTE);
        int two = v.variant(World.BYTE, World.LONG);
        v.put(v.b, 0, 0, 45);
        laidAt(v, "a variant of a long", given(v, one, two), 136, 152);
        v.memoryIs(C, "the variant", v.a, 136, 0, 0, 0, 0, 0, 0, 0, 0, 45, 0);
    }

    private static void roomOfTextsIsNotAligned() {
        C.sentence("For a text room is made for its bytes (alignment 1)");
        for (boolean asResult : Passing.WAYS) {
            Passing p = new Passing(asResult);
            int t = p.w.record(World.TEXT, World.TEXT, World.TEXT);
            int answer = p.passed(t, 0, 12, 0, 1, 0, 12, 0, 2, 0, 12, 0, 3, 0, 'x', 'y', 'z');
            p.arrived(C, "three texts", answer);
            p.w.memoryIs(C, "three texts", p.to, 128, 140, 0, 1, 0, 141, 0, 2, 0, 143, 0, 3, 0,
                    'x', 'x', 'y', 'x', 'y', 'z', 0);
        }
    }

    private static void roomOfListsIsAlignedByThePart() {
        C.sentence("for a list room for its values: offsets, sizes and alignments are u's");
        for (boolean asResult : Passing.WAYS) {
            Passing p = new Passing(asResult);
            int t = p.w.record(World.TEXT, p.w.list(World.LONG), p.w.list(World.SHORT));
            int answer = p.passed(t, 0, 12, 0, 1, 0, 16, 0, 1, 0, 12, 0, 1, 0, 7, 8, 0, 0, 9);
            p.arrived(C, "a text and two lists", answer);
            p.w.memoryIs(C, "a text and two lists", p.to, 128, 140, 0, 1, 0, 144, 0, 1, 0, 152, 0, 1, 0,
                    7, 0, 0, 0, 9, 0, 0, 0, 0, 0, 0, 0, 7, 8, 0);
            C.due("heap", p.x.state(p.to, 1), 154);
            Passing q = new Passing(asResult);
            int wide = q.w.list(q.w.variant(World.BYTE, World.LONG));
            q.begin(wide);
            q.put(0, 8, 0, 2, 0);
            q.put(8, 0, 5, 0, 6);
            q.arrived(C, "values of two bytes as of 16", q.pass(q.w.list(q.w.variant(World.BYTE)), 0));
            q.w.memoryIs(C, "at a multiple of 8", q.to, 128, 136, 0, 2, 0);
            q.w.memoryIs(C, "the first", q.to, 136, 0, 0, 0, 0, 0, 0, 0, 0, 5, 0);
            q.w.memoryIs(C, "the second", q.to, 152, 0, 0, 0, 0, 0, 0, 0, 0, 6, 0);
            C.due("heap", q.x.state(q.to, 1), 168);
        }
    }

    private static void recordsAreWrittenInUsWay() {
        C.sentence("Then the items are written .. in u's way: offsets, sizes and alignments are u's (records)");
        for (boolean asResult : Passing.WAYS) {
            Passing p = new Passing(asResult);
            int inT = p.w.record(World.BYTE, World.LONG);
            int inU = p.w.record(World.BYTE);
            int t = p.w.record(inT, World.BYTE, World.SHORT);
            p.begin(p.w.record(inU, World.BYTE, World.SHORT));
            p.put(0, 1);
            p.put(16, 2, 99, 3, 4);
            p.arrived(C, "a record in a record", p.pass(t, 0));
            p.w.memoryIs(C, "a record in a record", p.to, 128, 1, 2, 3, 4, 0);
        }
    }

    private static void variantsAreWrittenInUsWay() {
        C.sentence("Then the items are written .. in u's way: offsets, sizes and alignments are u's (variants)");
        for (boolean asResult : Passing.WAYS) {
            for (int which = 0; which < 2; which++) {
                Passing p = new Passing(asResult);
                int t = p.w.variant(World.BYTE, World.CHOICE_3);
                p.begin(p.w.variant(World.BYTE, World.CHOICE_9, World.WORD));
                p.put(33, which, 2);
                p.arrived(C, "case " + which, p.pass(t, 33));
                p.w.memoryIs(C, "case " + which, p.to, 128, which, 0, 0, 0, 2, 0, 0, 0);
                C.due("heap", p.x.state(p.to, 1), 136);
            }
        }
    }

    private static void itemsAreWrittenInOrder() {
        C.sentence("Then the items are written in the order in which they were read");
        for (boolean asResult : Passing.WAYS) {
            Passing p = new Passing(asResult);
            int t = p.w.record(p.w.list(World.TEXT), World.TEXT);
            int answer = p.passed(t, 0, 8, 0, 2, 0, 16, 0, 1, 0, 17, 0, 1, 0, 18, 0, 2, 0, 'a', 'b', 'c', 'd');
            p.arrived(C, "texts in a list, and one behind it", answer);
            p.w.memoryIs(C, "all of them", p.to, 128, 136, 0, 2, 0, 147, 0, 1, 0, 144, 0, 1, 0, 145, 0, 2, 0,
                    'b', 'c', 'd', 'a', 0);
        }
    }

    private static void theWholeIsReadFirst() {
        C.sentence("First it is READ .. Then it is WRITTEN");
        for (boolean asResult : Passing.WAYS) {
            Passing p = new Passing(asResult);
            int t = p.w.record(World.TEXT, World.FLAG);
            p.begin(t);
            p.x.write(p.to, 128, 8, -1);
            p.put(0, 16, 0, 200, 0, 2);
            p.trapped(C, "a wrong flag behind a text without room", p.pass(t, 0), 2, 4);
            p.w.memoryIs(C, "nothing was written", p.to, 128, 255, 255, 255, 255, 255, 255, 255, 255);
        }
        Passing p = new Passing(false);
        int t = p.w.record(World.OWN_0, World.OWN_1);
        p.w.ownMany(p.to, 2, 16);
        p.w.own(p.from, 0, 0);
        p.trapped(C, "a wrong kind behind one without a handle", p.passed(t, 0, 1, 2), 7, 1);
    }

    private static void theLowestHandleIsUsed() {
        C.sentence("For OWN and BORROW the lowest handle not in use of that instance is used .. and its number written");
        for (int free = 1; free <= 16; free++) {
            for (int type : new int[] {World.OWN_0, World.BORROW_0}) {
                for (boolean asResult : Passing.WAYS) {
                    if (asResult && type == World.BORROW_0) {
                        continue;
                    }
                    Passing p = withFreeHandles(asResult, free, 16);
                    p.w.own(p.from, 0);
                    p.arrived(C, "handle " + free, p.passed(type, 9, 1));
                    C.due("its number", p.x.read(p.to, 128), free);
                    p.w.handleIs(C, "the handle", p.to, free, 16, 0, type == World.OWN_0 ? 1 : 0, 0);
                }
            }
        }
    }

    /** The receiver has all its handles in use but two. */
    private static Passing withFreeHandles(boolean asResult, int first, int second) {
        Passing p = new Passing(asResult);
        p.w.ownMany(p.to, 3, 16);
        p.x.enter(p.to);
        p.x.drop(first);
        if (second != first) {
            p.x.drop(second);
        }
        p.x.leave();
        return p;
    }

    private static void noHandleIsLeft() {
        C.sentence("if there is none, a trap, 12 at the place where the handle was read");
        for (boolean asResult : Passing.WAYS) {
            for (int place : new int[] {0, 9, 255}) {
                Passing p = new Passing(asResult);
                p.w.ownMany(p.to, 3, 16);
                p.w.own(p.from, 0);
                p.trapped(C, "16 in use", p.passed(World.OWN_0, place, 1), 12, place);
                p.w.handleIs(C, "owned as before", p.from, 1, 16, 0, 1, 0);
                C.due("the receiver's handles", p.x.state(p.to, 2), 16);
            }
            Passing p = withFreeHandles(asResult, 4, 11);
            p.w.own(p.from, 0, 0, 0);
            int answer = p.passed(p.w.list(World.OWN_0), 0, 200, 0, 3, 0);
            p.trapped(C, "no handles at 200", answer, 6, 200);
            Passing q = withFreeHandles(asResult, 4, 11);
            q.w.own(q.from, 0, 0, 0);
            int t = q.w.list(World.OWN_0);
            q.begin(t);
            q.put(0, 200, 0, 3, 0);
            q.put(200, 3, 2, 1);
            q.trapped(C, "the third of three", q.pass(t, 0), 12, 202);
            C.due("those that were made are not in use", q.x.state(q.to, 2), 14);
            C.due("those that were taken are", q.x.state(q.from, 2), 3);
        }
    }

    private static void noHandleIsLeftForABorrow() {
        C.sentence("if there is none, a trap, 12 at the place where the handle was read (a borrow)");
        Passing p = new Passing(false);
        p.w.ownMany(p.to, 3, 15);
        p.w.own(p.from, 0);
        int t = p.w.record(World.BORROW_0, World.BORROW_0);
        p.trapped(C, "the second one", p.passed(t, 70, 1, 1), 12, 71);
        p.w.handleIs(C, "no loans", p.from, 1, 15, 0, 1, 0);
        p.w.handleIs(C, "not in use", p.to, 16);
    }

    private static void handlesAndRoomInOrder() {
        C.sentence("the items are written in the order in which they were read (traps 11 and 12)");
        for (boolean asResult : Passing.WAYS) {
            Passing handleFirst = new Passing(asResult);
            handleFirst.w.ownMany(handleFirst.to, 3, 16);
            handleFirst.w.own(handleFirst.from, 0);
            int t = handleFirst.w.record(World.OWN_0, World.TEXT);
            handleFirst.trapped(C, "no handle, then no room", handleFirst.passed(t, 0, 1, 0, 16, 0, 200, 0), 12, 0);
            Passing roomFirst = new Passing(asResult);
            roomFirst.w.ownMany(roomFirst.to, 3, 16);
            roomFirst.w.own(roomFirst.from, 0);
            t = roomFirst.w.record(World.TEXT, World.OWN_0);
            roomFirst.trapped(C, "no room, then no handle", roomFirst.passed(t, 0, 16, 0, 200, 0, 1), 11, 134);
            roomFirst.w.handleIs(C, "owned as before", roomFirst.from, 1, 16, 0, 1, 0);
        }
    }

    private static void whatWasTakenIsNotInUse() {
        C.sentence("What was taken is not in use any more in the end");
        World w = new World();
        int f = w.function(World.OWN_0, World.OWN_0);
        w.ownMany(w.a, 0, 16);
        w.x.enter(w.a);
        w.put(w.a, 0, 5);
        C.due("call", w.x.call(f, World.OWN_0, 0), 0);
        w.handleIs(C, "a's", w.a, 5);
        w.handleIs(C, "b's", w.b, 1, 4, 0, 1, 0);
        C.due("a has 15", w.x.state(w.a, 2), 15);
        C.due("back", w.x.back(World.OWN_0, 128), 0);
        w.handleIs(C, "b's", w.b, 1);
        w.handleIs(C, "a's again", w.a, 5, 4, 0, 1, 0);
        C.due("b has none", w.x.state(w.b, 2), 0);
        C.due("its number", w.x.read(w.a, 128), 5);
        C.due("nothing is gone", w.x.resources(0, true), 0);
        C.due("all are there", w.x.resources(0, false), 16);
    }

    private static void writtenBytesStay() {
        C.sentence("Bytes that were written stay");
        for (boolean asResult : Passing.WAYS) {
            Passing p = new Passing(asResult);
            int t = p.w.record(World.BYTE, World.TEXT, World.TEXT, World.BYTE);
            p.begin(t);
            for (int at = 128; at < 160; at += 8) {
                p.x.write(p.to, at, 8, -1);
            }
            p.put(0, 77, 0, 16, 0, 2, 0, 16, 0, 125, 0, 78);
            p.put(16, 'h', 'i');
            p.trapped(C, "the second text has no room", p.pass(t, 0), 11, 142);
            p.w.memoryIs(C, "what came before it", p.to, 128, 77, 0, 140, 0, 2, 0, 0, 0, 0, 0, 0, 0, 'h', 'i', 255, 255);
        }
    }
}

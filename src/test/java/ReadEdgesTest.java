/** The edges of reading a value, by a call and as a result: 'First it is READ' in Terms. Each method tests one sentence. */
public final class ReadEdgesTest {
    private static final Checks C = new Checks();
    private static final int LEAST = Integer.MIN_VALUE;
    private static final int MOST = Integer.MAX_VALUE;

    public static void main(String[] args) {
        for (boolean asResult : Passing.WAYS) {
            twoHundredItemsAreFine(asResult);
            theItemBehindThem(asResult);
            theItemInTheLastOne(asResult);
            theItemBehindThemIsNotRead(asResult);
            textsAreOneItem(asResult);
            partsThatUHasNotAreNoItems(asResult);
            placesThatAreNoMultiple(asResult);
            placesThatAreMultiples(asResult);
            alignmentComesBeforeTheMemorysEnds(asResult);
            bytesOutside(asResult);
            bytesThatAreNotToBeRead(asResult);
            theFirstByteOutsideIsTold(asResult);
            flags(asResult);
            choices(asResult);
            choicesByTheNOfT(asResult);
            numbersAreAny(asResult);
            letters(asResult);
            placesAndNumbersOfTwoBytes(asResult);
            textsUpToTheLastByte(asResult);
            textsBeyondTheLastByte(asResult);
            listsUpToTheLastByte(asResult);
            listsBeyondTheLastByte(asResult);
            listsOfNone(asResult);
            valuesLieOverOneAnother(asResult);
            listsGoOnByTheSizeOfT(asResult);
            recordsByTheOffsetsOfT(asResult);
            recordsByThePartsOfU(asResult);
            variantsByTheirCases(asResult);
            variantsByTheCasesOfT(asResult);
            choicesInOthersByTheNOfT(asResult);
            listsInVariantsByThePartOfT(asResult);
            handlesThatAreNotInUse(asResult);
            handlesOfAnotherKind(asResult);
            ownTakesTheHandle(asResult);
        }
        ownOfOneThatIsLent();
        ownOfOneWithLoans();
        borrowMakesALoan();
        borrowOfOneThatIsTaken();
        borrowOfOneThatIsLent();
        kindComesBeforeOwned();
        ownedComesBeforeLoans();
        C.end();
    }

    /** A list with three items in each byte; in a record with count values they make 2 + 3 * count items. */
    private static int triples(Passing p) {
        return p.w.list(p.w.record(p.w.record(World.FLAG)));
    }

    private static void twoHundredItemsAreFine(boolean asResult) {
        C.sentence("the 201st item makes a TRAP (200 items make none)");
        Passing p = new Passing(asResult);
        p.arrived(C, "200 items", p.passed(p.w.record(triples(p)), 0, 100, 0, 66, 0));
        C.due("all were written", p.x.read(p.to, 130), 66);
        C.due("heap", p.x.state(p.to, 1), 128 + 4 + 66);
    }

    private static void theItemBehindThem(boolean asResult) {
        C.sentence("the 201st item makes a TRAP, 10 at its place");
        Passing inList = new Passing(asResult);
        int answer = inList.passed(inList.w.record(triples(inList)), 0, 100, 0, 67, 0);
        inList.trapped(C, "a list's value", answer, 10, 166);
        Passing inRecord = new Passing(asResult);
        answer = inRecord.passed(inRecord.w.record(triples(inRecord), World.FLAG), 0, 100, 0, 66, 0);
        inRecord.trapped(C, "a record's part", answer, 10, 4);
    }

    /** A record, a list and its 197 values, and the last part make 200 items; what is in that part is the 201st. */
    private static void theItemInTheLastOne(boolean asResult) {
        C.sentence("Each value that is read, this one and those in it, is an ITEM");
        int[] places = {4, 5, 40};
        for (int kind = 0; kind < 3; kind++) {
            Passing p = new Passing(asResult);
            int bytes = p.w.list(World.BYTE);
            int[] lasts = {p.w.record(World.BYTE), p.w.variant(World.BYTE), bytes};
            int t = p.w.record(bytes, lasts[kind]);
            p.begin(t);
            p.put(0, 16, 0, 197, 0);
            p.put(4, kind == 2 ? 40 : 0, 0, 1, 0);
            p.trapped(C, "last part " + kind, p.pass(t, 0), 10, places[kind]);
        }
    }

    private static void theItemBehindThemIsNotRead(boolean asResult) {
        C.sentence("In this order: the 201st item ..; a place that is no multiple ..; Then its bytes are read");
        Passing outside = new Passing(asResult);
        int answer = outside.passed(outside.w.record(triples(outside)), 0, 190, 0, 67, 0);
        outside.trapped(C, "outside of the memory", answer, 10, 256);
        for (int count = 196; count <= 197; count++) {
            Passing p = new Passing(asResult);
            int t = p.w.record(p.w.list(World.BYTE), p.w.list(World.LONG));
            answer = p.passed(t, 0, 16, 0, count, 0, 0xFF, 0xFF, 1, 0);
            p.trapped(C, count + " and one at an odd place outside", answer, count == 197 ? 10 : 5, 65535);
        }
        Passing wrong = new Passing(asResult);
        answer = wrong.passed(wrong.w.record(triples(wrong), World.FLAG), 0, 100, 0, 66, 0, 2);
        wrong.trapped(C, "a flag of 2", answer, 10, 4);
        Passing caseFirst = new Passing(asResult);
        int t = caseFirst.w.record(caseFirst.w.list(World.BYTE), caseFirst.w.variant(World.BYTE));
        caseFirst.trapped(C, "no such case of the 200th", caseFirst.passed(t, 0, 16, 0, 197, 0, 1), 2, 4);
    }

    private static void textsAreOneItem(boolean asResult) {
        C.sentence("Each value that is read, this one and those in it, is an ITEM (a text's bytes are none)");
        Passing p = new Passing(asResult);
        int t = p.w.record(triples(p), World.TEXT);
        // 2 + 3 * 65 + 1 items, and 40 bytes in the last one.
        p.arrived(C, "198 items", p.passed(t, 0, 100, 0, 65, 0, 200, 0, 40, 0));
        C.due("heap", p.x.state(p.to, 1), 128 + 8 + 65 + 40);
    }

    private static void partsThatUHasNotAreNoItems(boolean asResult) {
        C.sentence("RECORD: its parts that u has, too .. as items (the others are no items)");
        Passing p = new Passing(asResult);
        int list = triples(p);
        int t = p.w.record(list, World.FLAG, World.FLAG);
        p.begin(p.w.record(list));
        p.put(0, 100, 0, 66, 0, 9, 9);
        p.arrived(C, "200 items", p.pass(t, 0));
    }

    private static void placesThatAreNoMultiple(boolean asResult) {
        C.sentence("a place that is no multiple of t's alignment makes a trap, 5 at it");
        int[][] rows = {{World.SHORT, 2}, {World.WORD, 4}, {World.LONG, 8}, {World.LETTER, 4}, {World.TEXT, 2}};
        for (int[] row : rows) {
            for (int off = 1; off < row[1]; off++) {
                for (int near : new int[] {0, 120, 248, 256, 65536, -8, LEAST, MOST - 7}) {
                    Passing p = new Passing(asResult);
                    p.trapped(C, "type " + row[0], p.passed(row[0], near + off), 5, near + off);
                }
            }
        }
        Passing list = new Passing(asResult);
        list.trapped(C, "a list", list.passed(list.w.list(World.BYTE), 3), 5, 3);
        Passing record = new Passing(asResult);
        record.trapped(C, "a record", record.passed(record.w.record(World.BYTE, World.LONG), 4), 5, 4);
        Passing variant = new Passing(asResult);
        variant.trapped(C, "a variant", variant.passed(variant.w.variant(World.BYTE, World.SHORT), 7), 5, 7);
        Passing values = new Passing(asResult);
        values.trapped(C, "a list's values", values.passed(values.w.list(World.WORD), 0, 6, 0, 1, 0), 5, 6);
    }

    private static void placesThatAreMultiples(boolean asResult) {
        C.sentence("a place that is no multiple of t's alignment (those that are make no trap)");
        int[][] rows = {{World.BYTE, 1}, {World.SHORT, 2}, {World.WORD, 4}, {World.LONG, 8}, {World.LETTER, 4}};
        for (int[] row : rows) {
            for (int at = 0; at < 256; at += row[1]) {
                Passing p = new Passing(asResult);
                p.arrived(C, "type " + row[0] + " at " + at, p.passed(row[0], at));
            }
        }
        for (int at = 0; at <= 252; at += 2) {
            Passing p = new Passing(asResult);
            p.arrived(C, "text at " + at, p.passed(World.TEXT, at));
        }
    }

    private static void alignmentComesBeforeTheMemorysEnds(boolean asResult) {
        C.sentence("In this order: .. no multiple of t's alignment ..; Then its bytes are read .. trap 1");
        for (int at : new int[] {-1, -3, 257, 259, LEAST + 1, MOST}) {
            Passing p = new Passing(asResult);
            p.trapped(C, "word at " + at, p.passed(World.WORD, at), 5, at);
        }
    }

    private static void bytesOutside(boolean asResult) {
        C.sentence("a byte whose place is not 0 .. 255 makes a trap, 1 at that place");
        int[] types = {World.FLAG, World.BYTE, World.SHORT, World.WORD, World.LONG, World.LETTER, World.TEXT,
            World.CHOICE_3, World.OWN_0};
        for (int t : types) {
            for (int at : new int[] {LEAST, -65536, -256, -8, 256, 264, 512, 65536, MOST - 7}) {
                Passing p = new Passing(asResult);
                p.trapped(C, "type " + t + " at " + at, p.passed(t, at), 1, at);
            }
        }
        for (int at : new int[] {-1, MOST, MOST - 1}) {
            for (int t : new int[] {World.FLAG, World.BYTE, World.CHOICE_9, World.OWN_1}) {
                Passing p = new Passing(asResult);
                p.trapped(C, "type " + t + " at " + at, p.passed(t, at), 1, at);
            }
            Passing record = new Passing(asResult);
            record.trapped(C, "a record", record.passed(record.w.record(World.BYTE, World.BYTE), at), 1, at);
            Passing variant = new Passing(asResult);
            variant.trapped(C, "a variant", variant.passed(variant.w.variant(World.BYTE), at), 1, at);
        }
    }

    private static void bytesThatAreNotToBeRead(boolean asResult) {
        C.sentence("makes a trap .. when it is to be read (and only then)");
        Passing record = new Passing(asResult);
        int t = record.w.record(World.BYTE, World.BYTE);
        record.begin(record.w.record(World.BYTE));
        record.put(255, 77);
        record.arrived(C, "a part that u has not lies outside", record.pass(t, 255));
        C.due("what was passed", record.x.read(record.to, 128), 77);
        Passing variant = new Passing(asResult);
        int v = variant.w.variant(World.BYTE, variant.w.record(World.BYTE, World.BYTE, World.BYTE));
        variant.arrived(C, "another case would end outside", variant.passed(v, 254, 0, 78));
        variant.w.memoryIs(C, "what was passed", variant.to, 128, 0, 78, 0, 0);
        Passing rest = new Passing(asResult);
        int padded = rest.w.variant(World.FLAG, World.SHORT, rest.w.record(World.SHORT, World.SHORT));
        rest.arrived(C, "the value's rest is outside", rest.passed(padded, 252, 0, 0, 1));
    }

    private static void theFirstByteOutsideIsTold(boolean asResult) {
        C.sentence("a byte whose place is not 0 .. 255 makes a trap, 1 at that place, when it is to be read");
        Passing text = new Passing(asResult);
        text.trapped(C, "a text's number", text.passed(World.TEXT, 254), 1, 256);
        Passing list = new Passing(asResult);
        list.trapped(C, "a list's number", list.passed(list.w.list(World.BYTE), 254), 1, 256);
        Passing record = new Passing(asResult);
        int t = record.w.record(World.WORD, World.FLAG, World.BYTE);
        record.trapped(C, "a record's second part", record.passed(t, 252), 1, 256);
        Passing variant = new Passing(asResult);
        variant.trapped(C, "a variant's part", variant.passed(variant.w.variant(World.BYTE), 255), 1, 256);
        Passing wide = new Passing(asResult);
        wide.trapped(C, "a wide variant's part", wide.passed(wide.w.variant(World.BYTE, World.LONG), 248), 1, 256);
        Passing before = new Passing(asResult);
        before.trapped(C, "a record before the memory", before.passed(before.w.record(World.BYTE, World.BYTE), -1), 1, -1);
    }

    private static void flags(boolean asResult) {
        C.sentence("FLAG: 0 or 1, else trap 2 at its place");
        for (int b = 0; b < 256; b++) {
            Passing p = new Passing(asResult);
            int answer = p.passed(World.FLAG, 77, b);
            if (b < 2) {
                p.arrived(C, "flag " + b, answer);
                C.due("flag", p.x.read(p.to, 128), b);
            } else {
                p.trapped(C, "flag " + b, answer, 2, 77);
            }
        }
    }

    private static void choices(boolean asResult) {
        C.sentence("CHOICE: less than t's n, else trap 2");
        int[][] rows = {{1, 0, 0}, {1, 1, 2}, {1, 255, 2}, {2, 1, 0}, {2, 2, 2}, {127, 126, 0}, {127, 127, 2},
            {128, 127, 0}, {128, 128, 2}, {129, 128, 0}, {200, 0, 0}, {200, 199, 0}, {200, 200, 2}, {200, 255, 2}};
        for (int[] row : rows) {
            Passing p = new Passing(asResult);
            int answer = p.passed(p.x.type(7, row[0]), 78, row[1]);
            if (row[2] == 0) {
                p.arrived(C, row[1] + " of " + row[0], answer);
                C.due("choice", p.x.read(p.to, 128), row[1]);
            } else {
                p.trapped(C, row[1] + " of " + row[0], answer, 2, 78);
            }
        }
    }

    private static void choicesByTheNOfT(boolean asResult) {
        C.sentence("CHOICE: less than t's n (not u's), else trap 2");
        for (int b : new int[] {2, 3, 8}) {
            Passing p = new Passing(asResult);
            p.begin(World.CHOICE_9);
            p.put(0, b);
            int answer = p.pass(World.CHOICE_3, 0);
            if (b == 2) {
                p.arrived(C, "2 of 3 as one of 9", answer);
            } else {
                p.trapped(C, b + " of 3 as one of 9", answer, 2, 0);
            }
        }
    }

    private static void numbersAreAny(boolean asResult) {
        C.sentence("BYTE, SHORT, WORD, LONG: any");
        for (int kind = World.BYTE; kind <= World.LONG; kind++) {
            int size = 1 << kind - 1;
            for (long number : new long[] {0, 1, 127, 128, 255, 256, -1, -2, Long.MIN_VALUE, Long.MAX_VALUE,
                Integer.MIN_VALUE, 0x8000, 0x80000000L, 0x0807060504030201L}) {
                Passing p = new Passing(asResult);
                p.begin(kind);
                p.x.write(p.from, 8, 8, number);
                p.arrived(C, "kind " + kind + " of " + number, p.pass(kind, 8));
                for (int k = 0; k < 8; k++) {
                    C.due("byte " + k, p.x.read(p.to, 128 + k), k < size ? number >>> 8 * k & 255 : 0);
                }
            }
        }
    }

    private static void letters(boolean asResult) {
        C.sentence("LETTER: a number 0 .. 55295 or 57344 .. 1114111, else trap 3 at its place (of four bytes as an int)");
        int[] good = {0, 1, 127, 128, 255, 256, 55294, 55295, 57344, 57345, 65535, 65536, 1114110, 1114111};
        int[] bad = {55296, 55297, 56320, 57342, 57343, 1114112, 1114113, 0x1000000, MOST, LEAST, LEAST + 65, -1, -55296};
        for (int letter : good) {
            Passing p = new Passing(asResult);
            p.begin(World.LETTER);
            p.x.write(p.from, 20, 4, letter);
            p.arrived(C, "letter " + letter, p.pass(World.LETTER, 20));
            for (int k = 0; k < 4; k++) {
                C.due("byte " + k, p.x.read(p.to, 128 + k), letter >>> 8 * k & 255);
            }
        }
        for (int letter : bad) {
            Passing p = new Passing(asResult);
            p.begin(World.LETTER);
            p.x.write(p.from, 20, 4, letter);
            p.trapped(C, "letter " + letter, p.pass(World.LETTER, 20), 3, 20);
        }
    }

    private static void placesAndNumbersOfTwoBytes(boolean asResult) {
        C.sentence("two bytes tell a place, two more how many");
        int[][] places = {{0, 1, 256}, {0xFF, 0xFF, 65535}, {0, 0x80, 32768}, {0xFF, 0x7F, 32767}};
        for (int[] place : places) {
            Passing text = new Passing(asResult);
            text.trapped(C, "text", text.passed(World.TEXT, 0, place[0], place[1], 1, 0), 1, place[2]);
            Passing list = new Passing(asResult);
            list.trapped(C, "list", list.passed(list.w.list(World.BYTE), 0, place[0], place[1], 1, 0), 1, place[2]);
        }
        int[][] numbers = {{0, 1}, {0xFF, 0xFF}, {0, 0x80}};
        for (int[] number : numbers) {
            Passing text = new Passing(asResult);
            text.trapped(C, "text", text.passed(World.TEXT, 0, 200, 0, number[0], number[1]), 1, 256);
            Passing list = new Passing(asResult);
            int answer = list.passed(list.w.list(World.BYTE), 0, 200, 0, number[0], number[1]);
            list.trapped(C, "list", answer, 1, 256);
            Passing many = new Passing(asResult);
            answer = many.passed(many.w.list(World.BYTE), 0, 10, 0, number[0], number[1]);
            many.trapped(C, "a list of too many items", answer, 10, 10 + 199);
        }
    }

    private static void textsUpToTheLastByte(boolean asResult) {
        C.sentence("TEXT: .. how many bytes there are, which are read one after the other (up to byte 255)");
        for (int count = 0; count <= 124; count++) {
            Passing p = new Passing(asResult);
            p.begin(World.TEXT);
            p.put(0, (256 - count) & 255, 256 - count >> 8, count, 0);
            p.arrived(C, count + " bytes", p.pass(World.TEXT, 0));
            C.due("heap", p.x.state(p.to, 1), 132 + count);
        }
        for (int place : new int[] {256, 65535}) {
            Passing p = new Passing(asResult);
            p.arrived(C, "no bytes at " + place, p.passed(World.TEXT, 0, place & 255, place >> 8, 0, 0));
        }
    }

    private static void textsBeyondTheLastByte(boolean asResult) {
        C.sentence("TEXT: .. a byte whose place is not 0 .. 255 makes a trap, 1 at that place");
        for (int count = 1; count <= 16; count++) {
            Passing p = new Passing(asResult);
            p.trapped(C, count + " bytes", p.passed(World.TEXT, 0, 257 - count, 257 - count >> 8, count, 0), 1, 256);
        }
    }

    private static void listsUpToTheLastByte(boolean asResult) {
        C.sentence("LIST: .. these are read as items, each one size behind the one before (up to byte 255)");
        int[] sizes = {0, 1, 2, 4, 8};
        for (int kind = World.BYTE; kind <= World.LONG; kind++) {
            for (int count = 1; count * sizes[kind] <= 96; count++) {
                Passing p = new Passing(asResult);
                int t = p.w.list(kind);
                p.begin(t);
                p.put(0, 256 - count * sizes[kind], 0, count, 0);
                p.put(255, 99);
                p.arrived(C, count + " of kind " + kind, p.pass(t, 0));
                C.due("the last byte", p.x.read(p.to, p.x.state(p.to, 1) - 1), 99);
            }
        }
    }

    private static void listsBeyondTheLastByte(boolean asResult) {
        C.sentence("LIST: .. a byte whose place is not 0 .. 255 makes a trap, 1 at that place");
        int[] sizes = {0, 1, 2, 4, 8};
        for (int kind = World.BYTE; kind <= World.LONG; kind++) {
            for (int count = 2; count <= 12; count++) {
                Passing p = new Passing(asResult);
                int t = p.w.list(kind);
                int answer = p.passed(t, 0, 256 - (count - 1) * sizes[kind], 0, count, 0);
                p.trapped(C, count + " of kind " + kind, answer, 1, 256);
            }
        }
    }

    private static void listsOfNone(boolean asResult) {
        C.sentence("LIST: .. how many values of its part there are (none: its place is not looked at)");
        for (int place : new int[] {0, 1, 3, 255, 256, 257, 65535}) {
            Passing p = new Passing(asResult);
            int t = p.w.list(World.WORD);
            p.arrived(C, "none at " + place, p.passed(t, 0, place & 255, place >> 8, 0, 0));
            p.w.memoryIs(C, "none at " + place, p.to, 128, 132, 0, 0, 0);
        }
    }

    /** Only the type tells how deep the reader goes: a list may have itself as its value. */
    private static void valuesLieOverOneAnother(boolean asResult) {
        C.sentence("LIST: two bytes tell a place (any, that of the list too)");
        Passing p = new Passing(asResult);
        int bytes = p.w.list(World.BYTE);
        int lists = p.w.list(p.w.list(p.w.list(bytes)));
        p.arrived(C, "a list in itself", p.passed(lists, 8, 8, 0, 1, 0));
        p.w.memoryIs(C, "four lists and a byte", p.to, 128, 132, 0, 1, 0, 136, 0, 1, 0, 140, 0, 1, 0, 144, 0, 1, 0, 8, 0);
        Passing many = new Passing(asResult);
        bytes = many.w.list(World.BYTE);
        lists = many.w.list(many.w.list(bytes));
        many.begin(lists);
        for (int at = 0; at < 128; at += 4) {
            many.put(at, 0, 0, 10, 0);
        }
        many.trapped(C, "ten in ten in ten", many.pass(lists, 0), 10, itemPlace(201));
    }

    /** Where item k lies when a list of lists of lists of bytes has ten values on each level, all from place 0 on. */
    private static int itemPlace(int k) {
        int item = 1;
        for (int outer = 0; outer < 10; outer++) {
            if (++item == k) {
                return 4 * outer;
            }
            for (int inner = 0; inner < 10; inner++) {
                if (++item == k) {
                    return 4 * inner;
                }
                for (int at = 0; at < 10; at++) {
                    if (++item == k) {
                        return at;
                    }
                }
            }
        }
        return HostedCalls.NONE;
    }

    private static void listsGoOnByTheSizeOfT(boolean asResult) {
        C.sentence("LIST: .. each one size behind the one before (t's size)");
        Passing p = new Passing(asResult);
        int t = p.w.list(p.w.record(World.BYTE, World.LONG));
        int u = p.w.list(p.w.record(World.BYTE));
        p.begin(u);
        p.put(0, 8, 0, 3, 0);
        p.put(8, 1);
        p.put(24, 2);
        p.put(40, 3);
        p.arrived(C, "16 by 16", p.pass(t, 0));
        p.w.memoryIs(C, "1 by 1", p.to, 128, 132, 0, 3, 0, 1, 2, 3, 0);
    }

    private static void recordsByTheOffsetsOfT(boolean asResult) {
        C.sentence("RECORD: its parts that u has, too, at their offsets, as items");
        Passing p = new Passing(asResult);
        int t = p.w.record(World.FLAG, World.LONG, World.FLAG, World.SHORT, World.FLAG, World.CHOICE_3);
        int[] offsets = {0, 8, 16, 18, 20, 21};
        p.begin(t);
        for (int k = 0; k < 6; k++) {
            p.put(8 + offsets[k], 1);
        }
        p.arrived(C, "all parts", p.pass(t, 8));
        for (int k = 0; k < 24; k++) {
            boolean there = k == 0 || k == 8 || k == 16 || k == 18 || k == 20 || k == 21;
            C.due("byte " + k, p.x.read(p.to, 128 + k), there ? 1 : 0);
        }
        for (int wrong : new int[] {0, 16, 20, 21}) {
            Passing q = new Passing(asResult);
            int same = q.w.record(World.FLAG, World.LONG, World.FLAG, World.SHORT, World.FLAG, World.CHOICE_3);
            q.begin(same);
            q.put(8 + wrong, 3);
            q.trapped(C, "the part at " + wrong, q.pass(same, 8), 2, 8 + wrong);
        }
    }

    private static void recordsByThePartsOfU(boolean asResult) {
        C.sentence("RECORD: its parts that u has (the others are not read)");
        for (int parts = 1; parts <= 6; parts++) {
            for (int wrong = 0; wrong < 6; wrong++) {
                Passing p = new Passing(asResult);
                int t = p.w.record(0, 0, 0, 0, 0, 0);
                p.begin(p.w.record(new int[parts]));
                p.put(32 + wrong, 2);
                int answer = p.pass(t, 32);
                if (wrong < parts) {
                    p.trapped(C, "part " + wrong + " of " + parts, answer, 2, 32 + wrong);
                } else {
                    p.arrived(C, "part " + wrong + " of " + parts, answer);
                    C.due("heap", p.x.state(p.to, 1), 128 + parts);
                }
            }
        }
    }

    private static void variantsByTheirCases(boolean asResult) {
        C.sentence("VARIANT: the byte at its place is the number of the case, else trap 2 there");
        for (int cases = 1; cases <= 6; cases++) {
            for (int which : new int[] {0, 1, 2, 3, 4, 5, 6, 7, 128, 255}) {
                Passing p = new Passing(asResult);
                int[] parts = new int[cases];
                java.util.Arrays.fill(parts, World.BYTE);
                int answer = p.passed(p.w.variant(parts), 50, which, 200);
                if (which < cases) {
                    p.arrived(C, "case " + which + " of " + cases, answer);
                    p.w.memoryIs(C, "case " + which, p.to, 128, which, 200);
                } else {
                    p.trapped(C, "case " + which + " of " + cases, answer, 2, 50);
                }
            }
        }
        Passing part = new Passing(asResult);
        int answer = part.passed(part.w.variant(World.SHORT, World.FLAG), 50, 1, 0, 2);
        part.trapped(C, "then that part at its offset", answer, 2, 52);
    }

    private static void variantsByTheCasesOfT(boolean asResult) {
        C.sentence("VARIANT: the number of the case (of t, not of u)");
        for (int which = 0; which < 4; which++) {
            Passing p = new Passing(asResult);
            int t = p.w.variant(World.BYTE, World.BYTE);
            p.begin(p.w.variant(World.BYTE, World.BYTE, World.BYTE));
            p.put(50, which, 9);
            int answer = p.pass(t, 50);
            if (which < 2) {
                p.arrived(C, "case " + which, answer);
            } else {
                p.trapped(C, "case " + which, answer, 2, 50);
            }
        }
    }

    private static void choicesInOthersByTheNOfT(boolean asResult) {
        C.sentence("CHOICE: less than t's n (in a list, a record or a variant, too), else trap 2");
        for (int kind = 8; kind <= 10; kind++) {
            for (int b : new int[] {2, 3, 8}) {
                Passing p = new Passing(asResult);
                p.x.part(World.CHOICE_3);
                int t = p.x.type(kind, 0);
                p.x.part(World.CHOICE_9);
                p.begin(p.x.type(kind, 0));
                int place = kind == 8 ? 40 : kind == 9 ? 20 : 21;
                p.put(20, kind == 8 ? 40 : 0, 0, kind == 8 ? 1 : 0, 0);
                p.put(place, b);
                int answer = p.pass(t, 20);
                if (b == 2) {
                    p.arrived(C, "2 of 3 as one of 9 in kind " + kind, answer);
                } else {
                    p.trapped(C, b + " of 3 as one of 9 in kind " + kind, answer, 2, place);
                }
            }
        }
    }

    private static void listsInVariantsByThePartOfT(boolean asResult) {
        C.sentence("VARIANT: .. then that part at its offset, as an item (of t's part: sizes and alignments)");
        for (int place : new int[] {16, 17}) {
            Passing p = new Passing(asResult);
            int t = p.w.variant(World.BYTE, p.w.list(p.w.record(World.BYTE, World.SHORT)));
            p.begin(p.w.variant(World.BYTE, p.w.list(p.w.record(World.BYTE))));
            p.put(6, 1, 0, place, 0, 3, 0);
            p.put(16, 1, 9, 9, 9, 2, 9, 9, 9, 3, 9);
            int answer = p.pass(t, 6);
            if (place == 16) {
                p.arrived(C, "4 by 4", answer);
                p.w.memoryIs(C, "1 by 1", p.to, 128, 1, 0, 134, 0, 3, 0, 1, 2, 3, 0);
            } else {
                p.trapped(C, "at an odd place", answer, 5, 17);
            }
        }
    }

    private static void handlesThatAreNotInUse(boolean asResult) {
        C.sentence("OWN, BORROW: the byte is the number of a handle in use, else trap 6 at its place");
        for (int b : new int[] {0, 1, 3, 15, 17, 18, 32, 128, 255}) {
            Passing p = new Passing(asResult);
            p.w.own(p.to, 0, 0, 0);
            p.w.ownMany(p.from, 0, 16);
            p.x.enter(p.from);
            p.x.drop(1);
            p.x.drop(3);
            p.x.drop(15);
            p.x.leave();
            p.trapped(C, "handle " + b, p.passed(World.OWN_0, 60, b), 6, 60);
        }
        for (int b : new int[] {2, 4, 14, 16}) {
            Passing p = new Passing(asResult);
            p.w.ownMany(p.from, 0, 16);
            p.arrived(C, "handle " + b, p.passed(World.OWN_0, 60, b));
        }
        for (int b : new int[] {0, 2, 17, 255}) {
            Passing p = new Passing(false);
            p.w.own(p.from, 0);
            p.trapped(C, "borrow of " + b, p.passed(World.BORROW_0, 60, b), 6, 60);
        }
    }

    private static void handlesOfAnotherKind(boolean asResult) {
        C.sentence("OWN, BORROW: .. of a resource of the kind n, else trap 7");
        for (int n = 0; n < 4; n++) {
            for (int kind = 0; kind < 4; kind++) {
                Passing own = new Passing(asResult);
                own.w.own(own.from, kind);
                int answer = own.passed(own.x.type(11, n), 61, 1);
                Passing borrow = new Passing(false);
                borrow.w.own(borrow.from, kind);
                int other = borrow.passed(borrow.x.type(12, n), 62, 1);
                if (n == kind) {
                    own.arrived(C, "own " + n, answer);
                    borrow.arrived(C, "borrow " + n, other);
                } else {
                    own.trapped(C, "own " + n + " of kind " + kind, answer, 7, 61);
                    borrow.trapped(C, "borrow " + n + " of kind " + kind, other, 7, 62);
                }
            }
        }
    }

    private static void ownTakesTheHandle(boolean asResult) {
        C.sentence("it is TAKEN, and for what is read behind it no longer in use");
        Passing p = new Passing(asResult);
        p.w.own(p.from, 0);
        p.trapped(C, "twice", p.passed(p.w.record(World.OWN_0, World.OWN_0), 62, 1, 1), 6, 63);
        p.w.handleIs(C, "owned as before", p.from, 1, 0, 0, 1, 0);
        Passing list = new Passing(asResult);
        list.w.own(list.from, 0, 0);
        int answer = list.passed(list.w.list(World.OWN_0), 0, 4, 0, 3, 0, 2, 1, 2);
        list.trapped(C, "in a list", answer, 6, 6);
        Passing otherKind = new Passing(asResult);
        otherKind.w.own(otherKind.from, 0);
        answer = otherKind.passed(otherKind.w.record(World.OWN_0, World.OWN_1), 62, 1, 1);
        otherKind.trapped(C, "not in use comes before the kind", answer, 6, 63);
    }

    /** a lends b a resource of kind 0 as handle 1; b runs, and a third one has a function that takes a value of type t. */
    private static World lentToB(int t) {
        World w = new World();
        int third = w.x.instance();
        w.x.function(third, t, World.FLAG);
        w.own(w.a, 0);
        w.put(w.a, 0, 1);
        C.due("lent", w.callWith(World.BORROW_0, 0), 0);
        return w;
    }

    private static void trappedInB(World w, String what, int answer, int code, int place) {
        C.due(what, answer, code);
        w.latestIs(C, what, code, place, w.b);
        C.due(what + ": b is poisoned", w.x.state(w.b, 0), 2);
        C.due(what + ": a is ready", w.x.state(w.a, 0), 0);
        C.due(what + ": the third one is ready", w.x.state(2, 0), 0);
        w.handleIs(C, what + ": lent no more", w.b, 1);
        w.handleIs(C, what + ": no loans", w.a, 1, 0, 0, 1, 0);
    }

    private static void ownOfOneThatIsLent() {
        C.sentence("For OWN it must be owned, else trap 8");
        World w = lentToB(World.OWN_0);
        w.put(w.b, 40, 1);
        trappedInB(w, "by a call", w.x.call(0, World.OWN_0, 40), 8, 40);
        World v = new World();
        int f = v.function(World.BORROW_0, World.OWN_0);
        v.own(v.a, 0);
        v.put(v.a, 0, 1);
        v.x.instance();
        v.x.enter(v.a);
        v.x.call(f, World.BORROW_0, 0);
        v.put(v.b, 40, 1);
        trappedInB(v, "as a result", v.x.back(World.OWN_0, 40), 8, 40);
    }

    private static void ownOfOneWithLoans() {
        C.sentence("For OWN it must be .. without loans, else trap 9");
        Passing p = new Passing(false);
        p.w.own(p.from, 0);
        p.trapped(C, "lent and moved", p.passed(p.w.record(World.BORROW_0, World.OWN_0), 62, 1, 1), 9, 63);
        p.w.handleIs(C, "owned as before, without loans", p.from, 1, 0, 0, 1, 0);
        Passing other = new Passing(false);
        other.w.own(other.from, 0, 0);
        other.arrived(C, "another one's loan", other.passed(other.w.record(World.BORROW_0, World.OWN_0), 62, 1, 2));
    }

    private static void borrowMakesALoan() {
        C.sentence("For BORROW, a loan is made");
        Passing p = new Passing(false);
        p.w.own(p.from, 0);
        p.arrived(C, "twice", p.passed(p.w.record(World.BORROW_0, World.BORROW_0), 62, 1, 1));
        p.w.handleIs(C, "two loans", p.from, 1, 0, 0, 1, 2);
        p.w.handleIs(C, "one of them", p.to, 1, 0, 0, 0, 0);
        p.w.handleIs(C, "the other", p.to, 2, 0, 0, 0, 0);
    }

    private static void borrowOfOneThatIsTaken() {
        C.sentence("it is TAKEN, and for what is read behind it no longer in use (for a borrow)");
        Passing p = new Passing(false);
        p.w.own(p.from, 0);
        p.trapped(C, "moved and lent", p.passed(p.w.record(World.OWN_0, World.BORROW_0), 62, 1, 1), 6, 63);
        p.w.handleIs(C, "owned as before", p.from, 1, 0, 0, 1, 0);
    }

    private static void borrowOfOneThatIsLent() {
        C.sentence("OWN, BORROW: .. a handle in use (a borrow may be of one that is lent)");
        World w = lentToB(World.BORROW_0);
        w.put(w.b, 40, 1);
        C.due("lent on", w.x.call(0, World.BORROW_0, 40), 0);
        w.handleIs(C, "the owner's", w.a, 1, 0, 0, 1, 1);
        w.handleIs(C, "b's", w.b, 1, 0, 0, 0, 1);
        w.handleIs(C, "the third one's", 2, 1, 0, 0, 0, 0);
    }

    private static void kindComesBeforeOwned() {
        C.sentence("of a resource of the kind n, else trap 7. For OWN it must be owned, else trap 8");
        World w = lentToB(World.OWN_1);
        w.put(w.b, 40, 1);
        trappedInB(w, "lent, and of another kind", w.x.call(0, World.OWN_1, 40), 7, 40);
        Passing p = new Passing(false);
        p.w.own(p.from, 0);
        p.trapped(C, "with loans, and another kind", p.passed(p.w.record(World.BORROW_0, World.OWN_1), 62, 1, 1), 7, 63);
    }

    private static void ownedComesBeforeLoans() {
        C.sentence("For OWN it must be owned, else trap 8, and without loans, else trap 9 (in this order)");
        World w = lentToB(World.FLAG);
        int pair = w.record(World.BORROW_0, World.OWN_0);
        int f = w.x.function(2, pair, World.FLAG);
        w.put(w.b, 40, 1, 1);
        trappedInB(w, "lent, and with loans", w.x.call(f, pair, 40), 8, 41);
    }
}

import java.util.Arrays;

/** The edges of types: what Terms says of them, and promises 2 to 5. Each method tests one sentence. */
public final class TypeEdgesTest {
    private static final Checks C = new Checks();
    private static final int LEAST = Integer.MIN_VALUE;
    private static final int MOST = Integer.MAX_VALUE;
    private static final int LIST = 8, RECORD = 9, VARIANT = 10;
    /** The types of World that have no parts, their sizes and alignments. */
    private static final int[] SIZES = {1, 1, 2, 4, 8, 4, 4, 1, 1, 1, 1, 1, 1};
    private static final int[] ALIGNMENTS = {1, 1, 2, 4, 8, 4, 2, 1, 1, 1, 1, 1, 1};

    public static void main(String[] args) {
        atMostThirtyTwo();
        noSuchKind();
        choicesAreOneToTwoHundred();
        resourceKindsAreNoughtToThree();
        otherNumbersAreFree();
        noPartsForKindsWithout();
        listsOfOnePart();
        recordsAndVariantsOfOneToSix();
        depthIsOneMoreThanTheGreatest();
        depthIsAtMostFive();
        sizesAndAlignments();
        recordsAreLaidOut();
        variantsAreLaidOut();
        recordsOfAtMost96();
        sizeIsRoundedUpTo96();
        variantsOfAtMost96();
        partOfNoType();
        theDraftHasAtMostSix();
        theDraftIsEmptyThen();
        layoutOfNoType();
        layoutOfNoSuchWhat();
        kindsFitThemselvesAlone();
        choicesFitGreaterOnes();
        resourcesFitTheirKindAlone();
        listsFitByTheirPart();
        recordsHaveNotFewer();
        variantsHaveNotMore();
        fitsCountsFromOne();
        fitsDoesNotGoIntoWhatDoesNotFit();
        fitsCountsPartsThatBothHave();
        fitsOfNoType();
        C.end();
    }

    private static void atMostThirtyTwo() {
        C.sentence("TYPES 0, 1, .. (at most 32) are made one by one; IllegalStateException: there are 32");
        HostedCalls x = new HostedCalls();
        for (int t = 0; t < 32; t++) {
            C.due("type", x.type(t % 7, 0), t);
        }
        for (int kind = 0; kind <= 12; kind++) {
            int k = kind;
            if (kind < LIST || kind > VARIANT) {
                C.refused("a 33rd of kind " + kind, Checks.STATE, () -> x.type(k, 1));
            }
        }
        C.due("the 32nd is there", x.layout(31, 0), 3);
        C.refused("a 33rd is not", Checks.ARGUMENT, () -> x.layout(32, 0));
        x.part(31);
        for (int kind = LIST; kind <= VARIANT; kind++) {
            int k = kind;
            C.refused("a 33rd of kind " + kind, Checks.STATE, () -> x.type(k, 0));
        }
    }

    private static void noSuchKind() {
        C.sentence("IllegalArgumentException: there is no such kind");
        for (int kind : new int[] {LEAST, LEAST + 7, -128, -1, 13, 14, 16, 256 + 7, 65536, MOST}) {
            C.refused("kind " + kind, Checks.ARGUMENT, () -> new HostedCalls().type(kind, 1));
            World w = new World();
            w.x.part(0);
            C.refused("kind " + kind + " with a part", Checks.ARGUMENT, () -> w.x.type(kind, 1));
        }
    }

    private static void choicesAreOneToTwoHundred() {
        C.sentence("7 CHOICE, n being 1 .. 200");
        for (int n : new int[] {LEAST, -200, -1, 0, 201, 256, 257, 65537, MOST}) {
            C.refused("choice " + n, Checks.ARGUMENT, () -> new HostedCalls().type(7, n));
        }
        for (int n = 1; n <= 200; n++) {
            C.due("choice " + n, new HostedCalls().type(7, n), 0);
        }
    }

    private static void resourceKindsAreNoughtToThree() {
        C.sentence("11 OWN, 12 BORROW, n being a resource kind 0 .. 3");
        for (int kind = 11; kind <= 12; kind++) {
            int k = kind;
            for (int n : new int[] {LEAST, -4, -1, 4, 5, 256, 65536, MOST}) {
                C.refused("kind " + k + " of " + n, Checks.ARGUMENT, () -> new HostedCalls().type(k, n));
            }
            for (int n = 0; n < 4; n++) {
                C.due("kind " + k + " of " + n, new HostedCalls().type(k, n), 0);
            }
        }
    }

    private static void otherNumbersAreFree() {
        C.sentence("n is not as said (for the kinds 7, 11, 12)");
        for (int n : new int[] {LEAST, -1, 0, 201, MOST}) {
            for (int kind = 0; kind <= VARIANT; kind++) {
                if (kind == 7) {
                    continue;
                }
                World w = new World();
                if (kind >= LIST) {
                    w.x.part(World.BYTE);
                }
                C.due("kind " + kind + " with " + n, w.x.type(kind, n), 13);
                C.due("its kind", w.x.layout(13, 0), kind);
            }
        }
    }

    private static void noPartsForKindsWithout() {
        C.sentence("the draft is not as many parts as the kind has (none for those without)");
        for (int parts = 1; parts <= 6; parts++) {
            World w = drafted(parts);
            for (int kind : new int[] {0, 1, 2, 3, 4, 5, 6, 7, 11, 12}) {
                C.refused("kind " + kind + " of " + parts, Checks.ARGUMENT, () -> w.x.type(kind, 1));
            }
        }
    }

    private static World drafted(int parts) {
        World w = new World();
        for (int k = 0; k < parts; k++) {
            w.x.part(World.BYTE);
        }
        return w;
    }

    private static void listsOfOnePart() {
        C.sentence("8 LIST of one part");
        for (int parts = 0; parts <= 6; parts++) {
            World w = drafted(parts);
            if (parts == 1) {
                C.due("a list", w.x.type(LIST, 0), 13);
                C.due("its parts", w.x.layout(13, 4), 1);
            } else {
                C.refused("a list of " + parts, Checks.ARGUMENT, () -> w.x.type(LIST, 0));
            }
        }
    }

    private static void recordsAndVariantsOfOneToSix() {
        C.sentence("9 RECORD of 1 .. 6 parts, 10 VARIANT of 1 .. 6 parts");
        for (int kind = RECORD; kind <= VARIANT; kind++) {
            int k = kind;
            C.refused("kind " + kind + " of none", Checks.ARGUMENT, () -> new World().x.type(k, 0));
            for (int parts = 1; parts <= 6; parts++) {
                World w = drafted(parts);
                C.due("kind " + kind + " of " + parts, w.x.type(kind, 0), 13);
                C.due("its parts", w.x.layout(13, 4), parts);
                C.due("its last offset", w.x.layout(13, 4 + parts), kind == RECORD ? parts - 1 : 1);
            }
        }
    }

    private static void depthIsOneMoreThanTheGreatest() {
        C.sentence("a DEPTH: 1, or one more than the greatest depth of its parts");
        World w = new World();
        for (int t = 0; t <= World.BORROW_1; t++) {
            C.due("depth of type " + t, w.x.layout(t, 3), 1);
        }
        int two = w.record(World.FLAG);
        int three = w.variant(two);
        int four = w.list(three);
        C.due("a record's", w.x.layout(two, 3), 2);
        C.due("a variant's", w.x.layout(three, 3), 3);
        C.due("a list's", w.x.layout(four, 3), 4);
        C.due("the greatest one first", w.x.layout(w.record(three, two, World.FLAG), 3), 4);
        C.due("the greatest one last", w.x.layout(w.variant(World.FLAG, two, three), 3), 4);
        C.due("the greatest one between", w.x.layout(w.record(two, three, World.FLAG), 3), 4);
    }

    private static void depthIsAtMostFive() {
        C.sentence("the depth or size is beyond its bound (depth at most 5)");
        for (int inner = LIST; inner <= VARIANT; inner++) {
            World w = new World();
            int t = World.FLAG;
            for (int depth = 2; depth <= 5; depth++) {
                w.x.part(t);
                t = w.x.type(inner, 0);
                C.due("depth", w.x.layout(t, 3), depth);
            }
            w.x.part(t);
            for (int outer = LIST; outer <= VARIANT; outer++) {
                int kind = outer;
                C.refused("6 deep, kind " + outer + " of " + inner, Checks.ARGUMENT, () -> w.x.type(kind, 0));
            }
            w.x.part(World.FLAG);
            C.refused("the deep part first", Checks.ARGUMENT, () -> w.x.type(RECORD, 0));
            C.refused("the deep case first", Checks.ARGUMENT, () -> w.x.type(VARIANT, 0));
        }
    }

    private static void sizesAndAlignments() {
        C.sentence("Where nothing else is said the alignment is the size");
        World w = new World();
        for (int t = 0; t <= World.BORROW_1; t++) {
            C.due("size of type " + t, w.x.layout(t, 1), SIZES[t]);
            C.due("alignment of type " + t, w.x.layout(t, 2), ALIGNMENTS[t]);
        }
        for (int t = 0; t <= World.BORROW_1; t++) {
            World v = new World();
            int list = v.list(t);
            C.due("size of a list", v.x.layout(list, 1), 4);
            C.due("alignment of a list", v.x.layout(list, 2), 2);
        }
    }

    private static int up(int place, int alignment) {
        return (place + alignment - 1) / alignment * alignment;
    }

    /** All records of three parts without parts of their own. */
    private static void recordsAreLaidOut() {
        C.sentence("A record's parts lie behind one another, .. at the least offset not before the end of the last one");
        for (int k = 0; k < 13 * 13 * 13; k++) {
            int[] parts = {k / 169, k / 13 % 13, k % 13};
            World w = new World();
            int t = w.record(parts);
            int end = 0;
            int greatest = 1;
            for (int p = 0; p < 3; p++) {
                int offset = up(end, ALIGNMENTS[parts[p]]);
                C.due("offset " + p + " of record " + k, w.x.layout(t, 5 + p), offset);
                end = offset + SIZES[parts[p]];
                greatest = Math.max(greatest, ALIGNMENTS[parts[p]]);
            }
            C.due("alignment of record " + k, w.x.layout(t, 2), greatest);
            C.due("size of record " + k, w.x.layout(t, 1), up(end, greatest));
        }
    }

    private static void variantsAreLaidOut() {
        C.sentence("a variant's parts all lie at the offset that is its alignment");
        for (int k = 0; k < 13 * 13 * 13; k++) {
            int[] parts = {k / 169, k / 13 % 13, k % 13};
            World w = new World();
            int t = w.variant(parts);
            int largest = 1;
            int greatest = 1;
            for (int part : parts) {
                largest = Math.max(largest, SIZES[part]);
                greatest = Math.max(greatest, ALIGNMENTS[part]);
            }
            for (int p = 0; p < 3; p++) {
                C.due("offset " + p + " of variant " + k, w.x.layout(t, 5 + p), greatest);
            }
            C.due("alignment of variant " + k, w.x.layout(t, 2), greatest);
            C.due("size of variant " + k, w.x.layout(t, 1), up(greatest + largest, greatest));
        }
    }

    /** A record of so many parts of one type, in records of records when they are more than six: at most 4 deep. */
    private static int recordOf(World w, int part, int count) {
        int inGroup = count <= 6 ? 1 : (count + 5) / 6;
        int group = inGroup == 1 ? part : recordOf(w, part, inGroup);
        int left = count % inGroup;
        int[] parts = new int[count / inGroup + (left == 0 ? 0 : 1)];
        Arrays.fill(parts, group);
        if (left != 0) {
            parts[parts.length - 1] = recordOf(w, part, left);
        }
        return w.record(parts);
    }

    private static void recordsOfAtMost96() {
        C.sentence("the depth or size is beyond its bound (a record's size at most 96)");
        for (int part : new int[] {World.FLAG, World.SHORT, World.WORD, World.LONG}) {
            World w = new World();
            int all = recordOf(w, part, 96 / SIZES[part]);
            C.due("96 with alignment " + SIZES[part], w.x.layout(all, 1), 96);
            C.due("96 in a record", w.x.layout(w.record(all), 1), 96);
            w.x.part(all);
            w.x.part(part);
            C.refused("one more with alignment " + SIZES[part], Checks.ARGUMENT, () -> w.x.type(RECORD, 0));
            for (int k = 2; k < 6; k++) {
                w.x.part(all);
            }
            C.refused("five times 96 and one", Checks.ARGUMENT, () -> w.x.type(RECORD, 0));
        }
    }

    private static void sizeIsRoundedUpTo96() {
        C.sentence("The size is the least multiple of the alignment with which no part reaches beyond it; at most 96");
        World w = new World();
        int eleven = recordOf(w, World.LONG, 11);
        C.due("88", w.x.layout(eleven, 1), 88);
        C.due("89 is 96", w.x.layout(w.record(eleven, World.FLAG), 1), 96);
        C.due("1 and 88 is 96", w.x.layout(w.record(World.FLAG, eleven), 1), 96);
        w.x.part(World.FLAG);
        w.x.part(eleven);
        w.x.part(World.FLAG);
        C.refused("1 and 88 and 1 is 104", Checks.ARGUMENT, () -> w.x.type(RECORD, 0));
    }

    private static void variantsOfAtMost96() {
        C.sentence("the depth or size is beyond its bound (a variant's size at most 96)");
        for (int part : new int[] {World.FLAG, World.SHORT, World.WORD, World.LONG}) {
            World w = new World();
            int less = recordOf(w, part, 96 / SIZES[part] - 1);
            C.due("the part", w.x.layout(less, 1), 96 - SIZES[part]);
            C.due("just 96", w.x.layout(w.variant(part, less), 1), 96);
            World v = new World();
            v.x.part(recordOf(v, part, 96 / SIZES[part]));
            C.refused("alignment " + SIZES[part] + " and 96", Checks.ARGUMENT, () -> v.x.type(VARIANT, 0));
            v.x.part(part);
            C.refused("the large case first", Checks.ARGUMENT, () -> v.x.type(VARIANT, 0));
        }
    }

    private static void partOfNoType() {
        C.sentence("Promise 2: IllegalArgumentException: there is no such type");
        for (int t : new int[] {LEAST, -13, -1, 13, 14, 31, 32, 256, 65536, MOST}) {
            C.refused("part " + t, Checks.ARGUMENT, () -> new World().x.part(t));
        }
        C.refused("the first one before it is made", Checks.ARGUMENT, () -> new HostedCalls().part(0));
        C.due("the last one", new World().x.part(12), 1);
    }

    private static void theDraftHasAtMostSix() {
        C.sentence("Promise 2: IllegalStateException: it has 6");
        World w = new World();
        for (int k = 1; k <= 6; k++) {
            C.due("how many it has", w.x.part(k), k);
        }
        for (int t = 0; t <= World.BORROW_1; t++) {
            int seventh = t;
            C.refused("a seventh", Checks.STATE, () -> w.x.part(seventh));
        }
        C.due("six", w.x.layout(w.x.type(RECORD, 0), 4), 6);
    }

    private static void theDraftIsEmptyThen() {
        C.sentence("A new type, whose parts are those of the draft, which is empty then");
        for (int kind = LIST; kind <= VARIANT; kind++) {
            World w = drafted(1);
            w.x.type(kind, 0);
            C.refused("no parts are left for a list", Checks.ARGUMENT, () -> w.x.type(LIST, 0));
            C.refused("nor for a record", Checks.ARGUMENT, () -> w.x.type(RECORD, 0));
            C.due("a flag is made of none", w.x.type(World.FLAG, 0), 14);
            C.due("the first part", w.x.part(World.LONG), 1);
            C.due("it is the new one", w.x.layout(w.x.type(RECORD, 0), 1), 8);
        }
    }

    private static void layoutOfNoType() {
        C.sentence("Promise 4: IllegalArgumentException: there is no such type");
        for (int t : new int[] {LEAST, -1, 13, 32, MOST}) {
            for (int what : new int[] {LEAST, -1, 0, 4, 5, MOST}) {
                C.refused("layout(" + t + ", " + what + ")", Checks.ARGUMENT, () -> new World().x.layout(t, what));
            }
        }
    }

    private static void layoutOfNoSuchWhat() {
        C.sentence("Promise 4: IndexOutOfBoundsException: there is no such what");
        for (int parts = 0; parts <= 6; parts++) {
            World w = drafted(parts);
            int t = parts == 0 ? World.LONG : w.x.type(parts % 2 == 0 ? RECORD : VARIANT, 0);
            for (int what = 0; what < 5 + parts; what++) {
                C.due("it is there", w.x.layout(t, what) >= 0, true);
            }
            for (int what : new int[] {LEAST, -5, -1, 5 + parts, 6 + parts, 11, 12, MOST - 5, MOST}) {
                C.refused(parts + " parts, what " + what, Checks.BOUNDS, () -> w.x.layout(t, what));
            }
        }
        World w = new World();
        int list = w.list(World.LONG);
        C.due("0 for the part of a list", w.x.layout(list, 5), 0);
        C.refused("a list has no second part", Checks.BOUNDS, () -> w.x.layout(list, 6));
    }

    private static void kindsFitThemselvesAlone() {
        C.sentence("A type t FITS a type u when they are of one kind");
        World w = new World();
        int[] kinds = {0, 1, 2, 3, 4, 5, 6, World.CHOICE_3, w.list(0), w.record(0), w.variant(0), World.OWN_0,
            World.BORROW_0};
        for (int t = 0; t < kinds.length; t++) {
            for (int u = 0; u < kinds.length; u++) {
                C.due("kind " + t + " and " + u, w.x.fits(kinds[t], kinds[u]), t == u ? 0 : 1);
            }
        }
        int other = w.x.type(World.BYTE, 77);
        C.due("the n of others is nothing", w.x.fits(other, World.BYTE) + w.x.fits(World.BYTE, other), 0);
    }

    private static void choicesFitGreaterOnes() {
        C.sentence("a choice has an n not greater than that of u");
        int[] ns = {1, 2, 3, 199, 200};
        HostedCalls x = new HostedCalls();
        for (int n : ns) {
            x.type(7, n);
        }
        for (int t = 0; t < 5; t++) {
            for (int u = 0; u < 5; u++) {
                C.due(ns[t] + " and " + ns[u], x.fits(t, u), t <= u ? 0 : 1);
            }
        }
    }

    private static void resourcesFitTheirKindAlone() {
        C.sentence("of own and borrow the n is the same");
        HostedCalls x = new HostedCalls();
        for (int k = 0; k < 8; k++) {
            x.type(11 + k / 4, k % 4);
        }
        for (int t = 0; t < 8; t++) {
            for (int u = 0; u < 8; u++) {
                C.due("types " + t + " and " + u, x.fits(t, u), t == u ? 0 : 1);
            }
        }
    }

    private static void listsFitByTheirPart() {
        C.sentence("the part of a list fits the part of the other");
        World w = new World();
        int small = w.list(World.CHOICE_3);
        int great = w.list(World.CHOICE_9);
        C.due("small and great", w.x.fits(small, great), 0);
        C.due("great and small", w.x.fits(great, small), 2);
        C.due("lists of them", w.x.fits(w.list(great), w.list(small)), 3);
    }

    private static void recordsHaveNotFewer() {
        C.sentence("a record has not fewer parts than u, and those that both have fit one by one");
        for (int t = 1; t <= 6; t++) {
            for (int u = 1; u <= 6; u++) {
                World w = new World();
                int left = recordOf(w, World.CHOICE_3, t);
                int right = recordOf(w, World.CHOICE_9, u);
                C.due(t + " and " + u, w.x.fits(left, right), t >= u ? 0 : 1);
                C.due(u + " and " + t + " the other way round", w.x.fits(right, left), u >= t ? 2 : 1);
            }
        }
    }

    private static void variantsHaveNotMore() {
        C.sentence("a variant not more, and those that both have fit one by one");
        for (int t = 1; t <= 6; t++) {
            for (int u = 1; u <= 6; u++) {
                World w = new World();
                int left = w.variant(repeated(World.CHOICE_3, t));
                int right = w.variant(repeated(World.CHOICE_9, u));
                C.due(t + " and " + u, w.x.fits(left, right), t <= u ? 0 : 1);
                C.due(u + " and " + t + " the other way round", w.x.fits(right, left), u <= t ? 2 : 1);
            }
        }
    }

    private static int[] repeated(int part, int count) {
        int[] parts = new int[count];
        Arrays.fill(parts, part);
        return parts;
    }

    private static void fitsCountsFromOne() {
        C.sentence("the number of the first type that does not, .. gone through from 1 on, each one before its own parts");
        for (int wrong = 0; wrong < 6; wrong++) {
            World w = new World();
            int[] parts = repeated(World.FLAG, 6);
            int good = w.record(parts);
            parts[wrong] = World.BYTE;
            int bad = w.record(parts);
            C.due("part " + wrong, w.x.fits(bad, good), 2 + wrong);
            C.due("in the last of three", w.x.fits(w.variant(good, good, bad), w.variant(good, good, good)),
                    1 + 7 + 7 + 2 + wrong);
            C.due("in the first of three, and the last", w.x.fits(w.record(bad, good, bad), w.record(good, good, good)),
                    1 + 2 + wrong);
        }
        World w = new World();
        int t = World.CHOICE_9;
        int u = World.CHOICE_3;
        for (int depth = 2; depth <= 5; depth++) {
            t = depth == 3 ? w.list(t) : w.variant(World.BYTE, t);
            u = depth == 3 ? w.list(u) : w.variant(World.BYTE, u);
        }
        // 1 variant, 2 byte, 3 variant, 4 byte, 5 list, 6 variant, 7 byte, 8 choice.
        C.due("5 deep", w.x.fits(t, u), 8);
    }

    private static void fitsDoesNotGoIntoWhatDoesNotFit() {
        C.sentence("a type whose kind, n or number of parts does not fit does not; its parts are not gone into");
        World w = new World();
        int two = w.record(World.FLAG, World.FLAG);
        int three = w.record(World.BYTE, World.FLAG, World.FLAG);
        C.due("number of parts", w.x.fits(two, three), 1);
        C.due("kind", w.x.fits(two, w.variant(World.BYTE, World.FLAG)), 1);
        C.due("number of parts, as a part", w.x.fits(w.record(World.FLAG, two), w.record(World.FLAG, three)), 3);
        C.due("kind, as a part", w.x.fits(w.list(two), w.list(World.WORD)), 2);
    }

    private static void fitsCountsPartsThatBothHave() {
        C.sentence("t, and in it its parts that u has, too, are gone through");
        World w = new World();
        int long3 = w.record(World.FLAG, World.FLAG, World.WORD);
        int short1 = w.record(World.FLAG);
        C.due("parts that u has not do not count",
                w.x.fits(w.record(long3, World.BYTE), w.record(short1, World.WORD)), 4);
        int case1 = w.variant(World.FLAG);
        int cases3 = w.variant(World.FLAG, World.BYTE, World.WORD);
        C.due("cases that t has not do not count",
                w.x.fits(w.record(case1, World.BYTE), w.record(cases3, World.WORD)), 4);
    }

    private static void fitsOfNoType() {
        C.sentence("Promise 5: IllegalArgumentException: there is no such type");
        for (int none : new int[] {LEAST, -1, 13, 32, MOST}) {
            for (int other : new int[] {LEAST, -1, 0, 12, 13, MOST}) {
                C.refused("fits(" + none + ", " + other + ")", Checks.ARGUMENT, () -> new World().x.fits(none, other));
                C.refused("fits(" + other + ", " + none + ")", Checks.ARGUMENT, () -> new World().x.fits(other, none));
            }
        }
    }
}

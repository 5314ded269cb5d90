/** Promises 1 to 5: a new object, part, type, layout, fits. */
public final class TypesTest {
    private static final Checks C = new Checks();

    public static void main(String[] args) {
        newObjectIsEmpty();
        partFillsTheDraft();
        typeRefusesWhatIsNone();
        thereAreThirtyTwoTypes();
        depthIsBounded();
        sizeIsBounded();
        layoutOfKindsWithoutParts();
        layoutOfRecords();
        layoutOfVariants();
        fitsOneByOne();
        fitsTellsTheFirstMisfit();
        C.end();
    }

    private static void newObjectIsEmpty() {
        HostedCalls x = new HostedCalls();
        C.refused("part of none", Checks.ARGUMENT, () -> x.part(0));
        C.refused("layout of none", Checks.ARGUMENT, () -> x.layout(0, 0));
        C.refused("read of none", Checks.ARGUMENT, () -> x.read(0, 0));
        C.refused("call of none", Checks.STATE, () -> x.call(0, 0, 0));
        C.due("depth", x.depth(), 0);
        C.due("passed", x.passed(), HostedCalls.NONE);
        for (int kind = 0; kind < 4; kind++) {
            C.due("resources", x.resources(kind, false), 0);
            C.due("resources gone", x.resources(kind, true), 0);
        }
        C.due("the first type", x.type(0, 0), 0);
        C.due("the first instance", x.instance(), 0);
        C.due("the first function", x.function(0, 0, 0), 0);
    }

    private static void partFillsTheDraft() {
        World w = new World();
        C.refused("part(-1)", Checks.ARGUMENT, () -> w.x.part(-1));
        C.refused("part(13)", Checks.ARGUMENT, () -> w.x.part(13));
        for (int k = 1; k <= 6; k++) {
            C.due("part", w.x.part(World.BYTE), k);
        }
        C.refused("a seventh part", Checks.STATE, () -> w.x.part(World.BYTE));
        C.refused("a seventh part of no type", Checks.ARGUMENT, () -> w.x.part(99));
        C.refused("a list of six", Checks.ARGUMENT, () -> w.x.type(8, 0));
        int six = w.x.type(9, 0);
        C.due("all six are parts", w.x.layout(six, 4), 6);
        C.due("the draft is empty then", w.x.part(World.WORD), 1);
        C.refused("a flag has no parts", Checks.ARGUMENT, () -> w.x.type(0, 0));
        C.due("what throws leaves the draft", w.x.part(World.WORD), 2);
    }

    private static void typeRefusesWhatIsNone() {
        HostedCalls x = new HostedCalls();
        int[][] none = {{-1, 0}, {13, 0}, {Integer.MAX_VALUE, 0}, {Integer.MIN_VALUE, 1}, {7, 0}, {7, 201}, {7, -5},
            {8, 0}, {9, 0}, {10, 0}, {11, -1}, {11, 4}, {12, -1}, {12, 4}};
        for (int[] one : none) {
            C.refused("type(" + one[0] + ", " + one[1] + ")", Checks.ARGUMENT, () -> x.type(one[0], one[1]));
        }
        int[][] good = {{7, 1}, {7, 200}, {11, 0}, {11, 3}, {12, 0}, {12, 3}, {0, 77}, {6, -9}};
        for (int k = 0; k < good.length; k++) {
            C.due("type(" + good[k][0] + ", " + good[k][1] + ")", x.type(good[k][0], good[k][1]), k);
        }
        x.part(0);
        for (int kind = 0; kind <= 12; kind++) {
            int without = kind;
            if (kind < 8 || kind > 10) {
                C.refused("parts for kind " + kind, Checks.ARGUMENT, () -> x.type(without, 1));
            }
        }
    }

    private static void thereAreThirtyTwoTypes() {
        HostedCalls x = new HostedCalls();
        for (int t = 0; t < 32; t++) {
            C.due("type", x.type(1, 0), t);
        }
        C.refused("a 33rd type", Checks.STATE, () -> x.type(1, 0));
        C.refused("a 33rd type of no kind", Checks.ARGUMENT, () -> x.type(13, 0));
        C.due("the draft goes on", x.part(31), 1);
        C.refused("a 33rd type with parts", Checks.STATE, () -> x.type(8, 0));
        C.due("the draft stays", x.part(31), 2);
    }

    private static void depthIsBounded() {
        World w = new World();
        int[] parts = {World.FLAG, 0, 0, 0, 0};
        for (int k = 1; k < 5; k++) {
            parts[k] = w.variant(parts[k - 1]);
            C.due("depth", w.x.layout(parts[k], 3), k + 1);
        }
        w.x.part(World.FLAG);
        w.x.part(parts[4]);
        C.refused("a record 6 deep", Checks.ARGUMENT, () -> w.x.type(9, 0));
        C.refused("a variant 6 deep", Checks.ARGUMENT, () -> w.x.type(10, 0));
    }

    private static void sizeIsBounded() {
        World w = new World();
        int large = w.record(World.LONG, World.LONG, World.LONG, World.LONG, World.LONG, World.LONG);
        C.due("two of them", w.x.layout(w.record(large, large), 1), 96);
        w.x.part(large);
        w.x.part(large);
        w.x.part(World.FLAG);
        C.refused("a byte more", Checks.ARGUMENT, () -> w.x.type(9, 0));
        C.due("as a variant", w.x.layout(w.x.type(10, 0), 1), 56);
        int six = w.record(World.BYTE, World.FLAG, World.BYTE, World.FLAG, World.BYTE, World.FLAG);
        int most = w.record(six, six, six, six, six, six);
        int rest = w.record(six, six, six, six);
        C.due("96 single bytes", w.x.layout(w.record(most, most, rest), 1), 96);
        w.x.part(most);
        w.x.part(most);
        w.x.part(rest);
        w.x.part(World.FLAG);
        C.refused("97 single bytes", Checks.ARGUMENT, () -> w.x.type(9, 0));
    }

    private static void layoutOfKindsWithoutParts() {
        HostedCalls x = new HostedCalls();
        int[] sizes = {1, 1, 2, 4, 8, 4, 4, 1, 4, 0, 0, 1, 1};
        int[] alignments = {1, 1, 2, 4, 8, 4, 2, 1, 2, 0, 0, 1, 1};
        for (int kind = 0; kind <= 12; kind++) {
            if (kind == 9 || kind == 10) {
                continue;
            }
            if (kind == 8) {
                x.part(0);
            }
            int t = x.type(kind, 3);
            C.due("kind", x.layout(t, 0), kind);
            C.due("size of kind " + kind, x.layout(t, 1), sizes[kind]);
            C.due("alignment of kind " + kind, x.layout(t, 2), alignments[kind]);
            C.due("depth of kind " + kind, x.layout(t, 3), kind == 8 ? 2 : 1);
            C.due("parts of kind " + kind, x.layout(t, 4), kind == 8 ? 1 : 0);
        }
        C.due("offset in a list", x.layout(8, 5), 0);
        C.refused("layout(8, 6)", Checks.BOUNDS, () -> x.layout(8, 6));
        C.refused("layout(0, 5)", Checks.BOUNDS, () -> x.layout(0, 5));
        C.refused("layout(0, -1)", Checks.BOUNDS, () -> x.layout(0, -1));
        C.refused("layout(99, 99)", Checks.ARGUMENT, () -> x.layout(99, 99));
        C.refused("layout(-1, 0)", Checks.ARGUMENT, () -> x.layout(-1, 0));
    }

    private static void layoutOfRecords() {
        World w = new World();
        int r = w.record(World.FLAG, World.TEXT, World.BYTE, World.WORD, World.FLAG, World.LONG);
        offsetsAre(w, r, 0, 2, 6, 8, 12, 16);
        C.due("size", w.x.layout(r, 1), 24);
        C.due("alignment", w.x.layout(r, 2), 8);
        int tail = w.record(World.WORD, World.FLAG);
        C.due("size is a multiple of the alignment", w.x.layout(tail, 1), 8);
        int inner = w.record(World.BYTE, tail, World.BYTE);
        offsetsAre(w, inner, 0, 4, 12);
        C.due("size around it", w.x.layout(inner, 1), 16);
        C.due("depth", w.x.layout(inner, 3), 3);
    }

    private static void layoutOfVariants() {
        World w = new World();
        int v = w.variant(World.FLAG, World.TEXT, World.BYTE);
        offsetsAre(w, v, 2, 2, 2);
        C.due("size", w.x.layout(v, 1), 6);
        int one = w.variant(World.FLAG);
        offsetsAre(w, one, 1);
        C.due("size of one", w.x.layout(one, 1), 2);
        int nested = w.variant(one, World.LONG, v);
        offsetsAre(w, nested, 8, 8, 8);
        C.due("size of it", w.x.layout(nested, 1), 16);
        C.refused("no fourth case", Checks.BOUNDS, () -> w.x.layout(nested, 8));
    }

    private static void offsetsAre(World w, int t, int... offsets) {
        for (int k = 0; k < offsets.length; k++) {
            C.due("offset of part " + k + " of " + t, w.x.layout(t, 5 + k), offsets[k]);
        }
    }

    private static void fitsOneByOne() {
        World w = new World();
        for (int t = 0; t <= World.BORROW_1; t++) {
            for (int u = 0; u <= World.BORROW_1; u++) {
                boolean fits = t == u || t == World.CHOICE_3 && u == World.CHOICE_9;
                C.due("fits(" + t + ", " + u + ")", w.x.fits(t, u), fits ? 0 : 1);
            }
        }
        int otherFlag = w.x.type(0, 5);
        C.due("n counts for choices and resources alone", w.x.fits(otherFlag, World.FLAG), 0);
        C.refused("fits(0, 99)", Checks.ARGUMENT, () -> w.x.fits(0, 99));
        C.refused("fits(-1, 0)", Checks.ARGUMENT, () -> w.x.fits(-1, 0));
    }

    private static void fitsTellsTheFirstMisfit() {
        World w = new World();
        int two = w.record(World.FLAG, World.CHOICE_3);
        int three = w.record(World.FLAG, World.CHOICE_9, World.BYTE);
        C.due("more parts are fine, but not the greater choice", w.x.fits(three, two), 3);
        C.due("fewer parts are not", w.x.fits(two, three), 1);
        int threeSmall = w.record(World.FLAG, World.CHOICE_3, World.BYTE);
        C.due("now it fits", w.x.fits(threeSmall, two), 0);
        int cases2 = w.variant(World.FLAG, World.BYTE);
        int cases3 = w.variant(World.FLAG, World.BYTE, World.WORD);
        C.due("fewer cases fit", w.x.fits(cases2, cases3), 0);
        C.due("more do not", w.x.fits(cases3, cases2), 1);
        int t = w.record(threeSmall, w.list(cases2), World.WORD);
        int u = w.record(two, w.list(cases3), World.WORD);
        C.due("deep", w.x.fits(t, u), 0);
        // 1 the record, 2 its first part, 3 and 4 the parts of that which u has, 5 the list, 6 the variant, 9 the word.
        int last = w.record(two, w.list(cases3), World.LONG);
        C.due("the last one is the 9th", w.x.fits(t, last), 9);
        int inList = w.record(two, w.list(World.FLAG), World.WORD);
        C.due("in the list", w.x.fits(t, inList), 6);
        C.due("the other way round", w.x.fits(u, t), 2);
    }
}

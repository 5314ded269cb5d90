/** The groups of a text: each bound of each byte, and where a text ends within a group. Each method tests one sentence. */
public final class TextEdgesTest {
    private static final Checks C = new Checks();
    private static final int AT = 60;
    private static final int[] NONE_BEHIND = {};

    public static void main(String[] args) {
        firstBytes();
        secondBytes();
        laterBytes();
        textsEndWithinAGroup();
        groupsBehindOneAnother();
        trapAtTheGroupsFirstByte();
        wrongBytesBeforeTheMemorysEnd();
        theMemorysEndBeforeWrongBytes();
        theTextsEndBeforeTheMemorys();
        textsArePassedAsTheyAre();
        C.end();
    }

    /** How many bytes follow a first one; NONE where no group begins so. */
    private static int behind(int first) {
        if (first <= 127) {
            return 0;
        }
        if (first >= 194 && first <= 223) {
            return 1;
        }
        if (first >= 224 && first <= 239) {
            return 2;
        }
        return first >= 240 && first <= 244 ? 3 : HostedCalls.NONE;
    }

    /** A second byte that is right behind each first one. */
    private static int rightSecond(int first) {
        return first == 224 ? 160 : first == 240 ? 144 : 128;
    }

    /** These bytes lie at a place, and so many of them are a text: the call's answer, and the trap's place. */
    private static void textIs(String what, int place, int count, int code, int due, int... bytes) {
        HostedCalls x = new HostedCalls();
        int text = x.type(6, 0);
        x.instance();
        x.instance();
        x.function(1, text, text);
        x.write(0, 0, 4, place | (long) count << 16);
        for (int k = 0; k < bytes.length && place + k < 256; k++) {
            x.write(0, place + k, 1, bytes[k]);
        }
        x.enter(0);
        C.due(what, x.call(0, text, 0), code);
        C.due(what + ": the trap's place", x.latest(1), due);
        C.due(what + ": who is poisoned", x.latest(2), code == 0 ? HostedCalls.NONE : 0);
        for (int k = 0; k < bytes.length && code == 0; k++) {
            C.due(what + ": byte " + k, x.read(1, 132 + k), bytes[k]);
        }
    }

    private static void textIs(String what, boolean right, int... bytes) {
        textIs(what, AT, bytes.length, right ? 0 : 4, right ? 0 : AT, bytes);
    }

    private static void firstBytes() {
        C.sentence("A group is a byte 0 .. 127; or 194 .. 223 and one byte more; or 224 .. 239 and two; "
                + "or 240 .. 244 and three");
        for (int first = 0; first < 256; first++) {
            for (int count = 1; count <= 4; count++) {
                int[] bytes = {first, rightSecond(first), 128, 128};
                boolean right = behind(first) == count - 1;
                // With more bytes than the group has, the next one begins with 128 or more, and can not be.
                int wrongAt = behind(first) > HostedCalls.NONE && count > behind(first) + 1 ? behind(first) + 1 : 0;
                textIs(count + " bytes behind " + first, AT, count, right ? 0 : 4, right ? 0 : AT + wrongAt,
                        java.util.Arrays.copyOf(bytes, count));
            }
        }
    }

    private static void secondBytes() {
        C.sentence("the second one not below 160 behind 224, not above 159 behind 237, not below 144 behind 240, "
                + "and not above 143 behind 244");
        for (int first = 194; first <= 244; first++) {
            int low = first == 224 ? 160 : first == 240 ? 144 : 128;
            int high = first == 237 ? 159 : first == 244 ? 143 : 191;
            for (int second = 0; second < 256; second++) {
                int[] bytes = {first, second, 128, 128};
                textIs(second + " behind " + first, second >= low && second <= high,
                        java.util.Arrays.copyOf(bytes, 1 + behind(first)));
            }
        }
    }

    private static void laterBytes() {
        C.sentence("these are 128 .. 191 (the third and the fourth one)");
        for (int first = 224; first <= 244; first++) {
            for (int later = 0; later < 256; later++) {
                boolean right = later >= 128 && later <= 191;
                int second = rightSecond(first);
                if (first < 240) {
                    textIs("third byte " + later + " behind " + first, right, first, second, later);
                } else {
                    textIs("third byte " + later + " behind " + first, right, first, second, later, 128);
                    textIs("fourth byte " + later + " behind " + first, right, first, second, 191, later);
                }
            }
        }
    }

    private static void textsEndWithinAGroup() {
        C.sentence("there is a trap, 4 at the group's first byte, .. when the text ends within a group");
        for (int first = 194; first <= 244; first++) {
            int[] whole = {first, rightSecond(first), 128, 128};
            for (int count = 1; count <= behind(first); count++) {
                // The rest of the group lies there, but is not of the text.
                textIs(count + " bytes of a group of " + first, AT, count, 4, AT, whole);
                textIs("behind another group", AT, count + 1, 4, AT + 1, 65, whole[0], whole[1], whole[2], whole[3]);
            }
        }
    }

    private static void groupsBehindOneAnother() {
        C.sentence("They must be a row of GROUPS");
        textIs("no groups", AT, 0, 0, 0, NONE_BEHIND);
        textIs("of one to four bytes", true, 65, 194, 128, 224, 160, 128, 240, 144, 128, 128);
        textIs("of four to one", true, 244, 143, 191, 191, 239, 191, 191, 223, 191, 127);
        textIs("all the same", true, 223, 191, 223, 191, 223, 191);
        textIs("zeros", true, 0, 0, 0);
    }

    private static void trapAtTheGroupsFirstByte() {
        C.sentence("where one can not be, there is a trap, 4 at the group's first byte");
        int[] four = {65, 194, 128, 240, 144, 128, 192};
        textIs("the fourth byte is wrong", AT, 7, 4, AT + 3, four);
        int[] three = {240, 144, 128, 128, 224, 160, 0};
        textIs("the third byte is wrong", AT, 7, 4, AT + 4, three);
        int[] two = {65, 66, 67, 195, 65};
        textIs("the second byte is wrong", AT, 5, 4, AT + 3, two);
        int[] one = {65, 195, 164, 191};
        textIs("the first byte is wrong", AT, 4, 4, AT + 3, one);
        int[] twice = {65, 255, 255};
        textIs("the first wrong one is told", AT, 3, 4, AT + 1, twice);
    }

    private static void wrongBytesBeforeTheMemorysEnd() {
        C.sentence("there is a trap .. when the byte that is wrong was read (before what lies behind it)");
        int[][] ends = {{255}, {128}, {195, 65}, {224, 128}, {240, 128}, {224, 160, 0}, {240, 144, 128, 0}};
        for (int[] end : ends) {
            int place = 256 - end.length;
            textIs("wrong at the memory's end", place, 200, 4, place, end);
        }
    }

    private static void theMemorysEndBeforeWrongBytes() {
        C.sentence("a byte whose place is not 0 .. 255 makes a trap, 1 at that place, when it is to be read (in a group)");
        int[][] ends = {{65}, {195}, {224, 160}, {240}, {240, 144}, {240, 144, 128}};
        for (int[] end : ends) {
            int place = 256 - end.length;
            textIs("one byte more", place, end.length + 1, 1, 256, end);
            textIs("many bytes more", place, 65535, 1, 256, end);
        }
    }

    private static void theTextsEndBeforeTheMemorys() {
        C.sentence("or when the text ends within a group (and the memory ends there, too)");
        int[][] ends = {{195}, {224, 160}, {240}, {240, 144}, {240, 144, 128}};
        for (int[] end : ends) {
            int place = 256 - end.length;
            textIs("within a group", place, end.length, 4, place, end);
        }
    }

    private static void textsArePassedAsTheyAre() {
        C.sentence("the place and the number are written, and then the bytes");
        for (int first = 0; first < 245; first++) {
            if (behind(first) >= 0) {
                int[] bytes = {first, rightSecond(first), 191, 191};
                textIs("group of " + first, true, java.util.Arrays.copyOf(bytes, 1 + behind(first)));
            }
        }
    }
}

import java.util.Arrays;

/**
 * The boundary cases that the document names under 'Terms', from the frames on: a test for each sentence, or for
 * each part of a long one, in the document's order and with its words above it.
 */
final class FrameEdgesTest {
    private static final Check CHECK = new Check("FrameEdgesTest");
    private static final FrameCheck FRAME = new FrameCheck(CHECK);

    public static void main(String[] args) {
        lengthBelow126();
        lengthInTwoBytes();
        emptyContent();
        mask();
        messageInFrames();
        underWay();
        shortOnesBetween();
        flags();
        otherKinds();
        shortOneThatIsNotLast();
        moreWithoutMessage();
        secondMessageUnderWay();
        notMasked();
        shortOneAbove125();
        twoBytesBelow126();
        eightBytesBelow65536();
        highestBit();
        above300();
        lengthBeforeTooLong();
        byteOfText();
        characterThatIsNotWhole();
        closeOfOneByte();
        codesOfClose();
        reasonOfClose();
        textsOfCharacters();
        whenItViolates();
        lastFrameOfMessage();
        wholeClose();
        wholePing();
        pongUpTo470();
        wholePong();
        said();
        waitingAndLost();
        CHECK.end();
    }

    private static Talk closing() {
        Talk talk = Other.open();
        talk.close(3000);
        return talk;
    }

    private static int[] counted(int n) {
        int[] bytes = new int[n];
        for (int i = 0; i < n; i++) {
            bytes[i] = (i * 37 + 11) & 255;
        }
        return bytes;
    }

    private static int[] behind(int[] before, int... bytes) {
        return Other.joined(before, bytes);
    }

    private static void comesWhole(String what, int[] content, int... bytes) {
        Talk talk = Other.open();
        CHECK.same(what + ": before its last byte", 0, Other.feed(talk, Arrays.copyOf(bytes, bytes.length - 1)));
        CHECK.same(what + ": with it", 1, Other.feed(talk, bytes[bytes.length - 1]));
        CHECK.same(what, content, Seen.message(talk, 0));
    }

    // a byte, 128 if it is MASKED, plus its LENGTH if this is below 126
    private static void lengthBelow126() {
        for (int n : new int[] {1, 2, 124, 125}) {
            comesWhole(n + " bytes", counted(n), Other.last(Other.BYTES, counted(n)));
        }
    }

    // else 126 and two bytes .. the highest first
    private static void lengthInTwoBytes() {
        for (int n : new int[] {126, 127, 255, 256, 257, 299, 300}) {
            comesWhole(n + " bytes", counted(n), Other.last(Other.BYTES, counted(n)));
        }
    }

    // and its CONTENT, of that length (which may be 0)
    private static void emptyContent() {
        comesWhole("an empty BYTES", Other.row(), 130, 128, 1, 2, 3, 4);
        comesWhole("an empty TEXT", Other.row(), 129, 128, 255, 255, 255, 255);
    }

    // if masked, byte i of it stands there as its exclusive-or with byte i % 4 of the mask
    private static void mask() {
        comesWhole("a mask of zeros", Other.row(1, 2, 3, 4, 5), 130, 133, 0, 0, 0, 0, 1, 2, 3, 4, 5);
        comesWhole("a mask of 255s", Other.row(255, 0, 127, 128, 1), 130, 133, 255, 255, 255, 255, 0, 255, 128, 127, 254);
        comesWhole("byte 4 with byte 0 of the mask", Other.row(0, 0, 0, 0, 0, 0, 0, 0, 0),
                130, 137, 1, 2, 4, 8, 1, 2, 4, 8, 1, 2, 4, 8, 1);
        comesWhole("each frame with its own, from its own byte 0", Other.row(7, 7),
                2, 129, 1, 2, 3, 4, 6, 128, 129, 8, 9, 10, 11, 15);
    }

    // A MESSAGE begins with a TEXT or BYTES and goes on with MOREs until one that is last (perhaps the first one)
    private static void messageInFrames() {
        comesWhole("the first one is last", Other.row('a'), Other.last(Other.TEXT, 'a'));
        comesWhole("one MORE", Other.row('a', 'b'), Other.joined(Other.notLast(Other.TEXT, 'a'),
                Other.last(Other.MORE, 'b')));
        comesWhole("two MOREs", Other.row('a', 'b', 'c'), Other.joined(Other.notLast(Other.BYTES, 'a'),
                Other.notLast(Other.MORE, 'b'), Other.last(Other.MORE, 'c')));
        comesWhole("empty ones", Other.row(), Other.joined(Other.notLast(Other.TEXT), Other.notLast(Other.MORE),
                Other.last(Other.MORE)));
        Talk talk = Other.open();
        Other.feed(talk, Other.joined(Other.notLast(Other.TEXT, 'a'), Other.last(Other.MORE),
                Other.notLast(Other.BYTES, 'b'), Other.last(Other.MORE)));
        CHECK.same("the kind is the first one's", Other.row(1, 2), Other.row(talk.kind(0), talk.kind(1)));
    }

    // it is UNDER WAY in between
    private static void underWay() {
        FRAME.isFine("before: TEXT", 129);
        FRAME.violates("before: MORE", 1002, 128);
        FRAME.isFine("in between: MORE", behind(Other.notLast(Other.TEXT), 128));
        FRAME.violates("in between: TEXT", 1002, behind(Other.notLast(Other.TEXT), 129));
        int[] done = Other.joined(Other.notLast(Other.TEXT), Other.last(Other.MORE));
        FRAME.isFine("behind: BYTES", behind(done, 130));
        FRAME.violates("behind: MORE", 1002, behind(done, 128));
        FRAME.violates("behind one that was first and last: MORE", 1002, behind(Other.last(Other.TEXT, 'a'), 128));
    }

    // Short ones may come between its frames.
    private static void shortOnesBetween() {
        Talk talk = Other.open();
        int delivered = Other.feed(talk, Other.joined(Other.notLast(Other.TEXT, 0xE2), Other.last(Other.PING, 0xFF, 1),
                Other.notLast(Other.MORE, 0x82), Other.last(Other.PONG, 0xFF), Other.last(Other.MORE, 0xAC)));
        CHECK.same("delivered", 1, delivered);
        CHECK.same("the message", Other.row(0xE2, 0x82, 0xAC), Seen.message(talk, 0));
        CHECK.same("the answer", Other.row(138, 2, 0xFF, 1), Seen.out(talk));
        CHECK.same("pongs", 1, talk.pongs());
        Talk closed = Other.open();
        Other.feed(closed, Other.joined(Other.notLast(Other.TEXT, 0xE2), Other.last(Other.CLOSE, 3, 232, 'b')));
        CHECK.same("a CLOSE", 1000, closed.endCode());
    }

    // the first byte: a flag is there
    private static void flags() {
        for (int flag : new int[] {64, 32, 16, 112}) {
            FRAME.violates("BYTES, flag " + flag, 1002, 130 + flag);
            FRAME.violates("PING, flag " + flag, 1002, 137 + flag);
            FRAME.violates("MORE, flag " + flag, 1002, behind(Other.notLast(Other.BYTES), 128 + flag));
        }
    }

    // the kind is another one
    private static void otherKinds() {
        for (int kind : new int[] {3, 4, 5, 6, 7, 11, 12, 13, 14, 15}) {
            FRAME.violates("kind " + kind, 1002, 128 + kind);
            FRAME.violates("kind " + kind + ", not last", 1002, kind);
            FRAME.violates("kind " + kind + " under way", 1002, behind(Other.notLast(Other.TEXT), 128 + kind));
        }
        for (int kind : new int[] {1, 2, 8, 9, 10}) {
            FRAME.isFine("kind " + kind, 128 + kind);
        }
    }

    // a short one is not last
    private static void shortOneThatIsNotLast() {
        for (int kind = 8; kind <= 10; kind++) {
            FRAME.violates("kind " + kind, 1002, kind);
            FRAME.violates("kind " + kind + " under way", 1002, behind(Other.notLast(Other.TEXT), kind));
            FRAME.isFine("kind " + kind + " that is", behind(Other.notLast(Other.TEXT), 128 + kind));
        }
    }

    // a MORE comes without a message under way
    private static void moreWithoutMessage() {
        FRAME.violates("last", 1002, 128);
        FRAME.violates("not last", 1002, 0);
        FRAME.violates("behind a short one", 1002, behind(Other.last(Other.PONG), 128));
    }

    // or a TEXT or BYTES while one is: code 1002.
    private static void secondMessageUnderWay() {
        for (int first : new int[] {1, 2}) {
            for (int second : new int[] {1, 2, 129, 130}) {
                FRAME.violates(second + " behind " + first, 1002, behind(Other.notLast(first), second));
                FRAME.violates(second + " behind " + first + " and MORE", 1002,
                        behind(Other.joined(Other.notLast(first), Other.notLast(Other.MORE)), second));
            }
        }
    }

    // The second byte: it is not masked
    private static void notMasked() {
        for (int first : new int[] {1, 2, 129, 130, 136, 137, 138}) {
            for (int length : new int[] {0, 1, 125, 126, 127}) {
                FRAME.violates(first + ", length " + length, 1002, first, length);
            }
            FRAME.isFine(first + " masked", first, 128);
        }
        FRAME.violates("MORE", 1002, behind(Other.notLast(Other.BYTES), 128, 127));
        FRAME.violates("and too long", 1002, behind(Other.notLast(Other.BYTES, Other.many(300, 1)), 128, 1));
    }

    // or it is a short one and the number in it is above 125: 1002.
    private static void shortOneAbove125() {
        for (int kind = 8; kind <= 10; kind++) {
            FRAME.isFine("kind " + kind + ", 125", 128 + kind, 128 + 125);
            FRAME.violates("kind " + kind + ", 126", 1002, 128 + kind, 128 + 126);
            FRAME.violates("kind " + kind + ", 127", 1002, 128 + kind, 128 + 127);
        }
        FRAME.isFine("a PONG of 125 bytes", Other.last(Other.PONG, counted(125)));
    }

    // The last byte of the length ..: in two bytes it is below 126 .. 1002
    private static void twoBytesBelow126() {
        FRAME.violates("0", 1002, 130, 254, 0, 0);
        FRAME.violates("125", 1002, 130, 254, 0, 125);
        FRAME.isFine("126", 130, 254, 0, 126);
        FRAME.isFine("256", 130, 254, 1, 0);
    }

    // in eight bytes below 65536
    private static void eightBytesBelow65536() {
        FRAME.violates("0", 1002, 130, 255, 0, 0, 0, 0, 0, 0, 0, 0);
        FRAME.violates("125", 1002, 130, 255, 0, 0, 0, 0, 0, 0, 0, 125);
        FRAME.violates("300", 1002, 130, 255, 0, 0, 0, 0, 0, 0, 1, 44);
        FRAME.violates("65535", 1002, 130, 255, 0, 0, 0, 0, 0, 0, 255, 255);
        FRAME.violates("65536 is too long", 1009, 130, 255, 0, 0, 0, 0, 0, 1, 0, 0);
        FRAME.violates("4294967296 does not wrap", 1009, 130, 255, 0, 0, 0, 1, 0, 0, 0, 0);
        FRAME.violates("4294967296 + 10", 1009, 130, 255, 0, 0, 0, 1, 0, 0, 0, 10);
    }

    // or the highest bit is 1: 1002
    private static void highestBit() {
        FRAME.violates("the highest bit alone", 1002, 130, 255, 128, 0, 0, 0, 0, 0, 0, 0);
        FRAME.violates("the highest bit and 65536", 1002, 130, 255, 128, 0, 0, 0, 0, 1, 0, 0);
        FRAME.violates("all bits", 1002, 130, 255, 255, 255, 255, 255, 255, 255, 255, 255);
        FRAME.violates("all but the highest", 1009, 130, 255, 127, 255, 255, 255, 255, 255, 255, 255);
        FRAME.violates("the second highest", 1009, 130, 255, 64, 0, 0, 0, 0, 0, 0, 0);
    }

    // else, when it is no short one and the message's content would be above 300 bytes with it: 1009.
    private static void above300() {
        FRAME.isFine("300", 129, 254, 1, 44);
        FRAME.violates("301", 1009, 129, 254, 1, 45);
        FRAME.violates("65535", 1009, 130, 254, 255, 255);
        FRAME.isFine("299 and 1", behind(Other.notLast(Other.BYTES, counted(299)), 128, 129));
        FRAME.violates("299 and 2", 1009, behind(Other.notLast(Other.BYTES, counted(299)), 128, 130));
        FRAME.isFine("300 and 0", behind(Other.notLast(Other.BYTES, counted(300)), 128, 128));
        FRAME.violates("300 and 1", 1009, behind(Other.notLast(Other.BYTES, counted(300)), 0, 129));
        FRAME.isFine("174 and 126", behind(Other.notLast(Other.BYTES, counted(174)), 128, 254, 0, 126));
        FRAME.violates("175 and 126", 1009, behind(Other.notLast(Other.BYTES, counted(175)), 128, 254, 0, 126));
        int[] three = Other.joined(Other.notLast(Other.TEXT, Other.many(100, 'a')),
                Other.notLast(Other.MORE, Other.many(100, 'b')));
        FRAME.isFine("100, 100 and 100", behind(three, 128, 128 + 100));
        FRAME.violates("100, 100 and 101", 1009, behind(three, 128, 128 + 101));
        FRAME.isFine("a short one does not count", behind(Other.notLast(Other.BYTES, counted(300)), 138, 128 + 125));
        FRAME.isFine("nor does the message before", behind(Other.last(Other.BYTES, counted(300)), 130, 254, 1, 44));
    }

    // 1002; else ..: 1009 (what is wrong with the length itself comes first)
    private static void lengthBeforeTooLong() {
        int[] full = Other.notLast(Other.BYTES, counted(300));
        FRAME.violates("two bytes below 126 and too long", 1002, behind(full, 128, 254, 0, 125));
        FRAME.violates("eight bytes below 65536 and too long", 1002, behind(full, 128, 255, 0, 0, 0, 0, 0, 0, 255, 255));
        FRAME.violates("the highest bit and too long", 1002, behind(full, 128, 255, 128, 0, 0, 0, 0, 0, 0, 0));
    }

    // A byte of a TEXT's content (MOREs of it, too): it can't stand there in a TEXT OF CHARACTERS: 1007.
    private static void byteOfText() {
        int[] twoBytes = {129, 130, 0, 0, 0, 0};
        FRAME.violates("the first of two bytes", 1007, behind(twoBytes, 0x80));
        FRAME.violates("the second of two bytes", 1007, behind(twoBytes, 'a', 0xFF));
        FRAME.violates("behind one that begins a character", 1007, behind(twoBytes, 0xC3, 'a'));
        FRAME.violates("as it is behind the mask", 1007, 129, 130, 0x80, 0, 0, 0, 0x41);
        FRAME.isFine("what only the mask makes so", 129, 130, 0xFF, 0xFF, 0, 0, 0x9E);
        int[] begun = Other.notLast(Other.TEXT, 'a', 0xC3);
        FRAME.violates("of a MORE", 1007, behind(begun, 0, 130, 0, 0, 0, 0, 'b'));
        FRAME.isFine("of a MORE that goes on with a character", behind(begun, 0, 130, 0, 0, 0, 0, 0xA9));
        FRAME.isFine("of BYTES it may", Other.last(Other.BYTES, 0x80, 0xFF));
        FRAME.isFine("of a MORE of BYTES, too", Other.joined(Other.notLast(Other.BYTES, 0xC3), Other.last(Other.MORE, 'a')));
        FRAME.isFine("of a PONG, too", behind(begun, Other.last(Other.PONG, 0x80, 'a')));
    }

    // The last byte of the last frame of a TEXT (of its mask, when its content is empty): a character is not whole: 1007.
    private static void characterThatIsNotWhole() {
        FRAME.violates("one of two bytes", 1007, Other.last(Other.TEXT, 'a', 0xDF));
        FRAME.violates("two of three", 1007, Other.last(Other.TEXT, 0xE2, 0x82));
        FRAME.violates("three of four", 1007, Other.last(Other.TEXT, 0xF0, 0x9F, 0x98));
        FRAME.violates("in a MORE", 1007, Other.joined(Other.notLast(Other.TEXT, 0xE2), Other.last(Other.MORE, 0x82)));
        FRAME.violates("in an empty MORE", 1007, Other.joined(Other.notLast(Other.TEXT, 0xE2, 0x82),
                Other.last(Other.MORE)));
        FRAME.isFine("in a frame that is not last", Other.notLast(Other.TEXT, 0xE2, 0x82));
        FRAME.isFine("nor in the next, that is empty", Other.joined(Other.notLast(Other.TEXT, 0xE2),
                Other.notLast(Other.MORE)));
        FRAME.isFine("of BYTES", Other.last(Other.BYTES, 0xE2, 0x82));
        FRAME.isFine("whole at its last byte", Other.joined(Other.notLast(Other.TEXT, 0xE2, 0x82),
                Other.notLast(Other.MORE), Other.last(Other.MORE, 0xAC)));
    }

    // The last byte of a CLOSE (likewise): its content is one byte: 1002
    private static void closeOfOneByte() {
        FRAME.violates("one byte", 1002, Other.last(Other.CLOSE, 3));
        FRAME.violates("one byte 0", 1002, Other.last(Other.CLOSE, 0));
        FRAME.violates("one byte 255", 1002, Other.last(Other.CLOSE, 255));
        ends("none", 1005, Other.row(136, 0), Other.last(Other.CLOSE));
        ends("two", 1000, Other.row(136, 2, 3, 232), Other.last(Other.CLOSE, 3, 232));
    }

    /** The talk is closed by the last of the bytes, and not before. */
    private static void ends(String what, int code, int[] said, int... bytes) {
        Talk talk = Other.open();
        Other.feed(talk, Arrays.copyOf(bytes, bytes.length - 1));
        CHECK.same(what + ": before its last byte", "state 1, end 0, delivered 0, pongs 0, out ", Seen.all(talk));
        Other.feed(talk, bytes[bytes.length - 1]);
        CHECK.same(what + ": end code", code, talk.endCode());
        CHECK.same(what + ": state", 3, talk.state());
        CHECK.same(what + ": said", said, Seen.out(talk));
    }

    // the first two bytes, as a number, the higher one first, are not 1000 .. 1003, 1007 .. 1011 or 3000 .. 4999: 1002
    private static void codesOfClose() {
        for (int code : new int[] {1000, 1001, 1002, 1003, 1007, 1008, 1009, 1010, 1011, 3000, 3001, 3999, 4000, 4999}) {
            ends("code " + code, code, Other.row(136, 2, code >> 8, code & 255),
                    Other.last(Other.CLOSE, code >> 8, code & 255));
            ends("code " + code + " and more", code, Other.row(136, 2, code >> 8, code & 255),
                    Other.last(Other.CLOSE, code >> 8, code & 255, 'a'));
        }
        for (int code : new int[] {0, 1, 999, 1004, 1005, 1006, 1012, 1015, 1100, 2000, 2999, 5000, 59395, 65535}) {
            FRAME.violates("code " + code, 1002, Other.last(Other.CLOSE, code >> 8, code & 255));
            FRAME.violates("code " + code + " and more", 1002, Other.last(Other.CLOSE, code >> 8, code & 255, 'a'));
        }
    }

    // the others are not a text of characters: 1007
    private static void reasonOfClose() {
        FRAME.violates("a byte that can't stand there", 1007, Other.last(Other.CLOSE, 3, 232, 0x80, 'a'));
        FRAME.violates("not whole", 1007, Other.last(Other.CLOSE, 3, 232, 'a', 0xC3));
        FRAME.violates("the 125th byte", 1007,
                Other.last(Other.CLOSE, Other.joined(Other.row(3, 232), Other.many(122, 'a'), Other.row(0xFF))));
        FRAME.violates("a wrong code comes first", 1002, Other.last(Other.CLOSE, 3, 231, 0xFF));
        ends("a text", 1000, Other.row(136, 2, 3, 232), Other.last(Other.CLOSE, 3, 232, 0xC3, 0xA9));
        ends("the code is none of it", 4096 - 61, Other.row(136, 2, 15, 195), Other.last(Other.CLOSE, 15, 195, 'a'));
        ends("125 bytes", 1000, Other.row(136, 2, 3, 232),
                Other.last(Other.CLOSE, Other.joined(Other.row(3, 232), Other.many(123, 'a'))));
    }

    // A TEXT OF CHARACTERS is any row of ..
    private static void textsOfCharacters() {
        isText(Other.row());
        isText(Other.row(0));
        isText(Other.row(127));
        for (int b : new int[] {128, 191, 192, 193, 245, 255}) {
            cantStand(Other.row(), b);
        }
        // or 194 .. 223 and one more
        character(194, 128, 191);
        character(223, 128, 191);
        // 224 and 160 .. 191 and one more
        character(224, 160, 191, 128, 191);
        // 225 .. 236, 238 or 239 and two more
        for (int b : new int[] {225, 236, 238, 239}) {
            character(b, 128, 191, 128, 191);
        }
        // 237 and 128 .. 159 and one more
        character(237, 128, 159, 128, 191);
        // 240 and 144 .. 191 and two more
        character(240, 144, 191, 128, 191, 128, 191);
        // 241 .. 243 and three more
        character(241, 128, 191, 128, 191, 128, 191);
        character(243, 128, 191, 128, 191, 128, 191);
        // 244 and 128 .. 143 and two more
        character(244, 128, 143, 128, 191, 128, 191);
    }

    /** A first byte, and the lowest and the highest that each of the others may be. */
    private static void character(int first, int... edges) {
        int[] begun = {first};
        for (int i = 0; i < edges.length; i += 2) {
            FRAME.violates(Arrays.toString(begun) + " is not whole", 1007, Other.last(Other.TEXT, begun));
            cantStand(begun, edges[i] - 1);
            cantStand(begun, edges[i + 1] + 1);
            cantStand(begun, 'a');
            begun = Other.joined(begun, Other.row(edges[i]));
        }
        isText(begun);
        int[] highest = {first};
        for (int i = 0; i < edges.length; i += 2) {
            highest = Other.joined(highest, Other.row(edges[i + 1]));
        }
        isText(highest);
        isText(Other.joined(begun, highest, Other.row('a')));
        cantStand(highest, 128);
    }

    private static void isText(int[] row) {
        comesWhole(Arrays.toString(row), row, Other.last(Other.TEXT, row));
        Talk talk = Other.openWithDraft(row);
        CHECK.same(Arrays.toString(row) + " as a draft", 1, talk.send(1, 0));
    }

    private static void cantStand(int[] begun, int b) {
        int[] frame = Other.last(Other.TEXT, Other.joined(begun, Other.row(b), Other.many(3, 128)));
        FRAME.violates(b + " behind " + Arrays.toString(begun), 1007, Arrays.copyOf(frame, frame.length - 3));
        Talk talk = Other.openWithDraft(Other.joined(begun, Other.row(b)));
        CHECK.failsIdly(b + " behind " + Arrays.toString(begun) + " as a draft", IllegalArgumentException.class, talk,
                () -> talk.send(1, 0));
    }

    // WHEN IT VIOLATES: in state OPEN this end says a CLOSE with the code; the state is CLOSED, and the END CODE is
    // that code.
    private static void whenItViolates() {
        int[][] wrong = {{131}, {129, 0}, {137, 254}, {130, 254, 0, 1}, {130, 254, 1, 45}, {129, 129, 0, 0, 0, 0, 255},
            {136, 129, 0, 0, 0, 0, 3}, {136, 130, 0, 0, 0, 0, 0, 0}, {136, 131, 0, 0, 0, 0, 3, 232, 255}};
        int[] codes = {1002, 1002, 1002, 1002, 1009, 1007, 1002, 1002, 1007};
        for (int i = 0; i < wrong.length; i++) {
            FRAME.violates("open, " + Arrays.toString(wrong[i]), codes[i], wrong[i]);
            FRAME.violatesIn("closing, " + Arrays.toString(wrong[i]), closing(), codes[i], wrong[i]);
        }
        Talk full = Other.open();
        Other.fillOutByPongs(full, 470);
        FRAME.violatesIn("however much OUT has", full, 1002, 131);
        CHECK.same("474 bytes", 474, full.outLength());
    }

    // WHEN A FRAME IS WHOLE: of a message's last frame: the message is DELIVERED.
    private static void lastFrameOfMessage() {
        Talk talk = Other.open();
        CHECK.same("not last", 0, Other.feed(talk, Other.notLast(Other.TEXT, 'a')));
        int[] last = Other.last(Other.MORE, 'b');
        CHECK.same("not whole", 0, Other.feed(talk, Arrays.copyOf(last, last.length - 1)));
        CHECK.same("none waits", 0, talk.messages());
        CHECK.same("whole", 1, Other.feed(talk, last[last.length - 1]));
        CHECK.same("it waits", 1, talk.messages());
        Talk closing = closing();
        CHECK.same("when closing, too", 1, Other.feed(closing, Other.last(Other.TEXT, 'a')));
        CHECK.same("it waits", Other.row('a'), Seen.message(closing, 0));
    }

    // A CLOSE: in state OPEN this end says a CLOSE with the same first two bytes (none if there are none);
    // the state is CLOSED, and the END CODE is that number, 1005 if there is none.
    private static void wholeClose() {
        ends("none", 1005, Other.row(136, 0), Other.last(Other.CLOSE));
        ends("two bytes", 1001, Other.row(136, 2, 3, 233), Other.last(Other.CLOSE, 3, 233));
        ends("more than two", 1001, Other.row(136, 2, 3, 233), Other.last(Other.CLOSE, 3, 233, 'x', 'y'));
        int[][] contents = {{}, {3, 233}, {19, 135, 'x'}};
        int[] codes = {1005, 1001, 4999};
        for (int i = 0; i < contents.length; i++) {
            Talk talk = closing();
            CHECK.same("no end code when closing", 0, talk.endCode());
            Other.feed(talk, Other.last(Other.CLOSE, contents[i]));
            CHECK.same("closed", 3, talk.state());
            CHECK.same("end code", codes[i], talk.endCode());
            CHECK.same("nothing is said", Other.row(136, 2, 11, 184), Seen.out(talk));
        }
        Talk full = Other.open();
        Other.fillOutByPongs(full, 470);
        Other.feed(full, Other.last(Other.CLOSE, 3, 233));
        CHECK.same("however much OUT has", 474, full.outLength());
    }

    // A PING, in state OPEN, ..: this end says a PONG with the same content.
    private static void wholePing() {
        for (int n : new int[] {0, 1, 4, 5, 124, 125}) {
            Talk talk = Other.open();
            int[] ping = Other.last(Other.PING, counted(n));
            Other.feed(talk, Arrays.copyOf(ping, ping.length - 1));
            CHECK.same("before it is whole", 0, talk.outLength());
            Other.feed(talk, ping[ping.length - 1]);
            CHECK.same("PONG of " + n, Other.joined(Other.row(138, n), counted(n)), Seen.out(talk));
            Talk closing = closing();
            String before = Seen.all(closing);
            Other.feed(closing, ping);
            CHECK.same("nothing when closing", before, Seen.all(closing));
        }
    }

    // when OUT has at most 470 bytes with that
    private static void pongUpTo470() {
        for (int n : new int[] {0, 1, 68, 125}) {
            for (int with = 469; with <= 472; with++) {
                Talk talk = Other.open();
                Other.fillOutByPongs(talk, with - 2 - n);
                int[] before = Seen.out(talk);
                Other.feed(talk, Other.last(Other.PING, counted(n)));
                int[] due = with <= 470 ? Other.joined(before, Other.row(138, n), counted(n)) : before;
                CHECK.same("OUT would have " + with, due, Seen.out(talk));
                CHECK.same("it goes on", 1, talk.state());
                talk.drop(talk.outLength());
                Other.feed(talk, Other.last(Other.PING, 1));
                CHECK.same("there is room again", Other.row(138, 1, 1), Seen.out(talk));
            }
        }
    }

    // A PONG counts.
    private static void wholePong() {
        Talk talk = Other.open();
        int[] pong = Other.last(Other.PONG, 0xFF);
        Other.feed(talk, Arrays.copyOf(pong, pong.length - 1));
        CHECK.same("before it is whole", 0, talk.pongs());
        Other.feed(talk, pong[pong.length - 1]);
        CHECK.same("whole", 1, talk.pongs());
        Other.feed(talk, Other.last(Other.PONG));
        CHECK.same("an empty one", 2, talk.pongs());
        CHECK.same("nothing is said", 0, talk.outLength());
        talk.close(1000);
        Other.feed(talk, Other.last(Other.PONG));
        CHECK.same("when closing", 3, talk.pongs());
    }

    // This end SAYS a frame .. not masked, without flags, last unless it is told otherwise, its length as short as it
    // can be.
    private static void said() {
        Talk talk = Other.openWithDraft(Other.many(100, 'd'));
        talk.send(2, 0);
        CHECK.same("BYTES of 100", Other.row(130, 100, 'd'), Arrays.copyOf(Seen.out(talk), 3));
        talk.drop(102);
        talk.send(1, 99);
        CHECK.same("not last", Other.row(1, 99), Arrays.copyOf(Seen.out(talk), 2));
        CHECK.same("last", Other.row(128, 1, 'd'), Arrays.copyOfRange(Seen.out(talk), 101, 104));
        talk.drop(104);
        Other.feed(talk, Other.last(Other.PING, counted(125)));
        CHECK.same("PONG of 125", Other.joined(Other.row(138, 125), counted(125)), Seen.out(talk));
        talk.drop(127);
        talk.close(4999);
        CHECK.same("CLOSE of 102", Other.row(136, 102, 19, 135, 'd'), Arrays.copyOf(Seen.out(talk), 5));
        CHECK.same("104 bytes in all", 104, talk.outLength());
    }

    // DELIVERED messages wait, at most four; one that comes when four wait is LOST.
    private static void waitingAndLost() {
        Talk talk = Other.open();
        for (int i = 1; i <= 4; i++) {
            CHECK.same("delivers", 1, Other.feed(talk, Other.last(Other.BYTES, Other.many(i, i))));
            CHECK.same("wait", i, talk.messages());
        }
        String four = Seen.all(talk);
        CHECK.same("delivers", 1, Other.feed(talk, Other.last(Other.TEXT, Other.many(300, 'l'))));
        CHECK.same("it is lost", four.replace("delivered 4", "delivered 5"), Seen.all(talk));
        for (int i = 1; i <= 9; i++) {
            CHECK.same("the oldest", i, talk.take());
            Other.feed(talk, Other.last(Other.BYTES, Other.many(i + 4, i + 4)));
            CHECK.same("four wait again", 4, talk.messages());
            CHECK.same("the newest is last", Other.many(i + 4, i + 4), Seen.message(talk, 3));
            CHECK.same("lost ones do not come back", Other.many(i + 1, i + 1), Seen.message(talk, 0));
        }
        Talk begun = Other.open();
        Other.feed(begun, Other.joined(Other.last(1), Other.last(1), Other.last(1), Other.last(1), Other.notLast(1, 'a')));
        begun.take();
        CHECK.same("what counts is its last frame", 1, Other.feed(begun, Other.last(0, 'b')));
        CHECK.same("so it waits", Other.row('a', 'b'), Seen.message(begun, 3));
    }
}

import java.util.Arrays;

/** Promises 2, 3, 4 and 14: bytes that come in as frames, what violates and at which byte. */
final class FeedTest {
    private static final Check CHECK = new Check("FeedTest");
    private static final FrameCheck FRAME = new FrameCheck(CHECK);
    private static final int[] NONE = {};

    public static void main(String[] args) {
        arguments();
        order();
        everyFirstByte();
        everySecondByte();
        lengthsInTwoBytes();
        lengthsInEightBytes();
        messagesTooLong();
        masks();
        pieces();
        twoInOneCall();
        shortOnesBetween();
        pongsCount();
        violationsWhenClosing();
        bytesBehindTheEnd();
        CHECK.end();
    }

    private static void arguments() {
        for (int n : new int[] {0, -1, 9, Integer.MIN_VALUE, Integer.MAX_VALUE, 16, 256 + 1}) {
            Talk fresh = new Talk();
            CHECK.failsIdly("feed n " + n, IllegalArgumentException.class, fresh, () -> fresh.feed(0, n));
            Talk open = Other.open();
            CHECK.failsIdly("feed n " + n + " open", IllegalArgumentException.class, open, () -> open.feed(0, n));
            Talk closed = Other.asked("\r\n\r\n");
            CHECK.failsIdly("feed n " + n + " closed", IllegalArgumentException.class, closed, () -> closed.feed(0, n));
        }
        for (int n = 1; n <= 8; n++) {
            int here = n;
            Talk closed = Other.asked("\r\n\r\n");
            CHECK.failsIdly("feed when closed", IllegalStateException.class, closed, () -> closed.feed(-1, here));
        }
    }

    private static void order() {
        Talk talk = Other.open();
        CHECK.same("a BYTES in one call", 1, talk.feed(0xFE80000000008282L, 8));
        CHECK.same("its bytes", Other.row(0x80, 0xFE), Seen.message(talk, 0));
        for (int n = 1; n <= 8; n++) {
            Talk cut = Other.open();
            int[] bytes = Other.joined(Other.last(Other.BYTES, 1, 2, 3, 255, 0, 128, 127), Other.last(Other.TEXT));
            CHECK.same("cut by " + n, 2, Other.feedBy(n, cut, bytes));
            CHECK.same("cut by " + n, Other.row(1, 2, 3, 255, 0, 128, 127), Seen.message(cut, 0));
            CHECK.same("cut by " + n, NONE, Seen.message(cut, 1));
        }
        Talk noise = Other.open();
        noise.feed(0xFFFFFFFFFFFFFF82L, 1);
        noise.feed(0x7777777777770080L, 2);
        noise.feed(0xFFFFFFFF00000000L, 3);
        CHECK.same("bytes of w above n are for nothing", "state 1, end 0, delivered 1, pongs 0, out , message 2: ",
                Seen.all(noise));
    }

    private static void everyFirstByte() {
        for (int b = 0; b < 256; b++) {
            int kind = b & 15;
            boolean last = b >= 128;
            boolean flag = (b & 0x70) != 0;
            boolean isShort = kind == 8 || kind == 9 || kind == 10;
            boolean known = isShort || kind == 0 || kind == 1 || kind == 2;
            boolean always = !flag && known && (!isShort || last);
            if (always && kind != 0) {
                FRAME.isFine("first byte " + b, Other.row(b));
            } else {
                FRAME.violates("first byte " + b, 1002, Other.row(b));
            }
            int[] begun = Other.joined(Other.notLast(2, 7), Other.row(b));
            if (always && kind != 1 && kind != 2) {
                FRAME.isFine("first byte under way " + b, begun);
            } else {
                FRAME.violates("first byte under way " + b, 1002, begun);
            }
            int[] done = Other.joined(Other.notLast(1, 65), Other.last(0, 66), Other.row(b));
            if (always && kind != 0) {
                FRAME.isFine("first byte behind a message " + b, done);
            } else {
                FRAME.violates("first byte behind a message " + b, 1002, done);
            }
        }
    }

    private static void everySecondByte() {
        for (int kind : new int[] {1, 2, 8, 9, 10}) {
            for (int b = 0; b < 256; b++) {
                String what = "kind " + kind + ", second byte " + b;
                if (b < 128 || kind >= 8 && b - 128 > 125) {
                    FRAME.violates(what, 1002, Other.row(128 + kind, b));
                } else {
                    FRAME.isFine(what, Other.row(128 + kind, b));
                }
            }
        }
        int[] full = Other.notLast(2, Other.many(300, 1));
        FRAME.violates("not masked and too long", 1002, Other.joined(full, Other.row(128, 5)));
    }

    private static void lengthsInTwoBytes() {
        for (int n : new int[] {0, 1, 125}) {
            FRAME.violates("length in two bytes " + n, 1002, Other.row(0x82, 254, n >> 8, n & 255));
        }
        for (int n : new int[] {126, 127, 255, 256, 299, 300}) {
            FRAME.isFine("length in two bytes " + n, Other.row(0x82, 254, n >> 8, n & 255));
        }
        for (int n : new int[] {301, 302, 512, 32767, 32768, 65535}) {
            FRAME.violates("length in two bytes " + n, 1009, Other.row(0x81, 254, n >> 8, n & 255));
        }
        Talk talk = Other.open();
        CHECK.same("300 bytes", 1, Other.feed(talk, Other.last(2, Other.many(300, 200))));
        CHECK.same("300 bytes", Other.many(300, 200), Seen.message(talk, 0));
    }

    private static void lengthsInEightBytes() {
        long[] tooSmall = {0, 1, 125, 126, 300, 301, 65535};
        long[] highest = {Long.MIN_VALUE, -1, Long.MIN_VALUE + 65536, Long.MIN_VALUE + 10};
        long[] tooLong = {65536, 65537, 1L << 31, 1L << 32, (1L << 32) + 5, 1L << 56, Long.MAX_VALUE};
        for (long n : tooSmall) {
            FRAME.violates("length in eight bytes " + n, 1002, inEight(n));
        }
        for (long n : highest) {
            FRAME.violates("length in eight bytes " + n, 1002, inEight(n));
        }
        for (long n : tooLong) {
            FRAME.violates("length in eight bytes " + n, 1009, inEight(n));
            FRAME.violates("length in eight bytes of a MORE " + n, 1009, Other.joined(Other.notLast(2, 1),
                    Other.row(128), Arrays.copyOfRange(inEight(n), 1, 10)));
        }
    }

    private static int[] inEight(long n) {
        int[] bytes = new int[10];
        bytes[0] = 0x82;
        bytes[1] = 255;
        for (int i = 0; i < 8; i++) {
            bytes[2 + i] = (int) (n >>> (56 - 8 * i)) & 255;
        }
        return bytes;
    }

    private static void messagesTooLong() {
        for (int first : new int[] {0, 1, 100, 175, 176, 299, 300}) {
            int[] begun = Other.notLast(2, Other.many(first, 9));
            int left = 300 - first;
            if (left < 125) {
                FRAME.violates("one too many behind " + first, 1009, Other.joined(begun, Other.row(128, 128 + left + 1)));
            } else {
                int n = left + 1;
                FRAME.violates("one too many behind " + first, 1009,
                        Other.joined(begun, Other.row(0, left + 1 < 126 ? 128 + n : 254),
                                n < 126 ? NONE : Other.row(n >> 8, n & 255)));
            }
            Talk talk = Other.open();
            CHECK.same("just 300 with " + first, 1,
                    Other.feed(talk, Other.joined(begun, Other.last(0, Other.many(left, 8)))));
            CHECK.same("just 300 with " + first, 300, talk.length(0));
        }
        Talk talk = Other.open();
        Other.feed(talk, Other.last(2, Other.many(250, 1)));
        CHECK.same("the next message counts anew", 1, Other.feed(talk, Other.last(2, Other.many(250, 2))));
        int[] full = Other.notLast(2, Other.many(300, 1));
        Talk between = Other.open();
        CHECK.same("short ones do not count", 1, Other.feed(between,
                Other.joined(full, Other.last(Other.PONG, Other.many(125, 1)), Other.last(0))));
    }

    private static void masks() {
        int[] plain = new int[11];
        int[] mask = {255, 1, 128, 85};
        int[] frame = new int[6 + plain.length];
        frame[0] = 0x82;
        frame[1] = 128 + plain.length;
        System.arraycopy(mask, 0, frame, 2, 4);
        for (int i = 0; i < plain.length; i++) {
            plain[i] = 23 * i + 5;
            frame[6 + i] = plain[i] ^ mask[i % 4];
        }
        Talk talk = Other.open();
        Other.feed(talk, Other.joined(frame, frame, Other.last(2, plain)));
        for (int k = 0; k < 3; k++) {
            CHECK.same("masked", plain, Seen.message(talk, k));
        }
        Talk pieces = Other.open();
        Other.feed(pieces, Other.joined(Other.notLast(2, 1, 2, 3), Other.last(0, 4, 5, 6)));
        CHECK.same("the mask begins anew in each frame", Other.row(1, 2, 3, 4, 5, 6), Seen.message(pieces, 0));
    }

    private static void pieces() {
        Talk talk = Other.open();
        CHECK.same("a piece", 0, Other.feed(talk, Other.notLast(1, 'a', 'b')));
        CHECK.same("none waits", 0, talk.messages());
        CHECK.same("a piece more", 0, Other.feed(talk, Other.notLast(0, 'c')));
        CHECK.same("an empty piece", 0, Other.feed(talk, Other.notLast(0)));
        CHECK.same("the last piece", 1, Other.feed(talk, Other.last(0, 'd')));
        CHECK.same("the message", Other.row('a', 'b', 'c', 'd'), Seen.message(talk, 0));
        CHECK.same("its kind", 1, talk.kind(0));
        int[] empty = Other.joined(Other.notLast(2), Other.notLast(0), Other.last(0));
        CHECK.same("empty pieces", 1, Other.feed(talk, empty));
        CHECK.same("an empty message", NONE, Seen.message(talk, 1));
        CHECK.same("its kind", 2, talk.kind(1));
    }

    private static void twoInOneCall() {
        Talk talk = Other.open();
        int[] two = Other.joined(Other.last(2), Other.last(1));
        CHECK.same("up to the last byte of the first", 0, Other.feed(talk, Arrays.copyOf(two, 5)));
        CHECK.same("both in one call", 2, Other.feed(talk, Arrays.copyOfRange(two, 5, 12)));
    }

    private static void shortOnesBetween() {
        Talk talk = Other.open();
        int n = Other.feed(talk, Other.joined(Other.notLast(1, 0xC3), Other.last(9, 1, 0xFF), Other.last(10, 200),
                Other.last(0, 0xA9)));
        CHECK.same("short ones between", 1, n);
        CHECK.same("the message", Other.row(0xC3, 0xA9), Seen.message(talk, 0));
        CHECK.same("the pong", Other.row(138, 2, 1, 0xFF), Seen.out(talk));
        CHECK.same("pongs", 1, talk.pongs());
        Other.feed(talk, Other.joined(Other.notLast(2, 1), Other.last(8, 3, 232)));
        CHECK.same("a CLOSE between", 1000, talk.endCode());
        CHECK.same("delivers nothing", 1, talk.delivered());
    }

    private static void pongsCount() {
        Talk talk = Other.open();
        CHECK.same("no pongs", 0, talk.pongs());
        Other.feed(talk, Other.joined(Other.last(10), Other.last(9, 5), Other.last(10, Other.many(125, 255))));
        CHECK.same("two pongs", 2, talk.pongs());
        int[] pong = Other.last(10, 1, 2);
        Other.feed(talk, Arrays.copyOf(pong, pong.length - 1));
        CHECK.same("one that is not whole", 2, talk.pongs());
        Other.feed(talk, pong[pong.length - 1]);
        CHECK.same("one that is", 3, talk.pongs());
        talk.close(1000);
        Other.feed(talk, Other.last(10));
        CHECK.same("when closing", 4, talk.pongs());
        Other.feed(talk, Other.joined(Other.last(8), Other.last(10)));
        CHECK.same("when closed", 4, talk.pongs());
    }

    private static void violationsWhenClosing() {
        int[][] wrong = {{0x83}, {0x81, 5}, {0x82, 254, 0, 1}, {0x89, 254}, {0x80}};
        for (int[] bytes : wrong) {
            Talk talk = Other.open();
            talk.close(3000);
            FRAME.violatesIn("closing, " + Arrays.toString(bytes), talk, 1002, bytes);
        }
        Talk tooLong = Other.open();
        tooLong.close(3000);
        FRAME.violatesIn("closing, too long", tooLong, 1009, Other.row(0x81, 254, 2, 0));
        Talk noText = Other.open();
        noText.close(3000);
        FRAME.violatesIn("closing, no text", noText, 1007, Other.row(0x81, 0x82, 0, 0, 0, 0, 0xC0));
        Talk full = Other.open();
        Other.fillOut(full, 400);
        FRAME.violatesIn("OUT is full", full, 1002, Other.row(0x83));
    }

    private static void bytesBehindTheEnd() {
        Talk talk = Other.open();
        CHECK.same("bytes behind a violation", 0, talk.feed(0x00000000808282F0L, 8));
        CHECK.same("are lost", "state 3, end 1002, delivered 0, pongs 0, out 136 2 3 234 ", Seen.all(talk));
        Talk closed = Other.open();
        int[] bytes = Other.joined(Other.last(8), Other.last(1));
        CHECK.same("bytes behind a CLOSE", 0, Other.feed(closed, bytes));
        CHECK.same("are lost", "state 3, end 1005, delivered 0, pongs 0, out 136 0 ", Seen.all(closed));
        Talk kept = Other.open();
        Other.feed(kept, Other.joined(Other.last(1, 'x'), Other.row(0xFF)));
        CHECK.same("messages stay when it ends", 'x', kept.byteAt(0, 0));
        CHECK.same("and can be taken", 1, kept.take());
        CHECK.same("and OUT dropped", true, kept.drop(4));
    }
}

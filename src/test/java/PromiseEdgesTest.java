import java.util.NoSuchElementException;

/**
 * The boundary cases that the document names under each promise: a test for each sentence, in the document's order
 * and with its words above it.
 */
final class PromiseEdgesTest {
    private static final Check CHECK = new Check("PromiseEdgesTest");
    private static final int[] FAR = {Integer.MIN_VALUE, -1000, 1000, Integer.MAX_VALUE};

    public static void main(String[] args) {
        newObject();
        feedLowestFirst();
        feedBehindTheEnd();
        feedAnswers();
        feedWithNoSuchNumber();
        feedWhenClosed();
        state();
        endCode();
        outLength();
        outAt();
        outAtNone();
        drop();
        dropRefused();
        messages();
        delivered();
        kind();
        length();
        byteAt();
        noMessage();
        noByteOfMessage();
        take();
        takeNone();
        pongs();
        writeLowestFirst();
        writeRefused();
        writeUpTo100();
        clear();
        sendInFrames();
        sendWithoutBytes();
        sendSize0();
        sendKinds();
        sendSizes();
        sendNoText();
        sendWhenNotOpen();
        sendUpTo400();
        ping();
        pingWhenNotOpen();
        pingUpTo400();
        close();
        closeHoweverMuchOutHas();
        closeWithNoCode();
        closeWithNoText();
        closeWhenNotOpen();
        CHECK.end();
    }

    private static Talk refused() {
        return Other.asked("\r\n\r\n");
    }

    private static Talk closing() {
        Talk talk = Other.open();
        talk.close(1000);
        return talk;
    }

    private static Talk closed() {
        Talk talk = Other.open();
        Other.feed(talk, Other.last(Other.CLOSE, 3, 232));
        return talk;
    }

    private static Talk[] inEachState() {
        return new Talk[] {new Talk(), Other.open(), closing(), closed(), refused()};
    }

    private static Talk[] notOpen() {
        return new Talk[] {new Talk(), closing(), closed(), refused()};
    }

    private static Talk withMessages(int... lengths) {
        Talk talk = Other.open();
        for (int i = 0; i < lengths.length; i++) {
            Other.feed(talk, Other.last(1 + i % 2, Other.many(lengths[i], 'a' + i)));
        }
        return talk;
    }

    // Promise 1. In state ASKED, nothing read; no messages.
    private static void newObject() {
        Talk talk = new Talk();
        CHECK.same("a new object", "state 0, end 0, delivered 0, pongs 0, out , draft []", Seen.allAndDraft(talk));
        CHECK.same("messages", 0, talk.messages());
        Other.feed(talk, Other.codes(Other.request(Other.GOOD)));
        CHECK.same("nothing was read before", 1, talk.state());
        CHECK.same("another one is none the wiser", 0, new Talk().state());
    }

    // Promise 2. n bytes come in, the lowest one of w first, one after the other, and each does what it does
    private static void feedLowestFirst() {
        Talk talk = Other.open();
        CHECK.same("eight", 1, talk.feed(0x0807000000008282L, 8));
        CHECK.same("the lowest first", Other.row(7, 8), Seen.message(talk, 0));
        int[] frame = {130, 130, 0, 0, 0, 0, 255, 128};
        for (int n = 1; n <= 8; n++) {
            Talk cut = Other.open();
            CHECK.same("by " + n, 1, Other.feedBy(n, cut, frame));
            CHECK.same("by " + n, Other.row(255, 128), Seen.message(cut, 0));
        }
        Talk above = Other.open();
        above.feed(0xFFFFFFFFFFFFFF82L, 1);
        above.feed(0xFFFFFFFFFFFFFF80L, 1);
        CHECK.same("those above n are for nothing", 1, above.feed(0xFFFFFFFF00000000L, 4));
    }

    // those that come when the state is CLOSED (by one before) are lost
    private static void feedBehindTheEnd() {
        Talk violated = Other.open();
        CHECK.same("behind a violation", 0, violated.feed(0x0000000080828FL, 8));
        CHECK.same("they are lost", "state 3, end 1002, delivered 0, pongs 0, out 136 2 3 234 ", Seen.all(violated));
        Talk left = Other.open();
        left.feed(0x0000000000008088L, 5);
        left.feed(0x000000008F808A00L, 8);
        CHECK.same("behind a CLOSE", "state 3, end 1005, delivered 0, pongs 0, out 136 0 ", Seen.all(left));
        Talk bad = new Talk();
        bad.feed(0x80810A0D0A0DL, 8);
        CHECK.same("behind a bad request", 28, bad.outLength());
        CHECK.same("they are no frame", 0, bad.endCode());
        Talk delivered = Other.open();
        delivered.feed(0x8281, 1);
        delivered.feed(0x80, 1);
        CHECK.same("what was delivered before them counts", 1, delivered.feed(0x8100FF00000000L, 7));
        CHECK.same("and the talk has ended", 1002, delivered.endCode());
    }

    // Answers how many messages were delivered (lost ones, too).
    private static void feedAnswers() {
        Talk talk = Other.open();
        CHECK.same("none", 0, talk.feed(0x8082, 2));
        CHECK.same("one and most of a second", 1, talk.feed(0x0000808200000000L, 8));
        CHECK.same("a second", 1, talk.feed(0, 2));
        talk.feed(0x8082, 2);
        talk.feed(0, 3);
        CHECK.same("two in one call", 2, talk.feed(0x00000000808200L, 7));
        CHECK.same("four wait", 4, talk.messages());
        talk.feed(0x8082, 2);
        CHECK.same("a lost one", 1, talk.feed(0, 4));
        talk.feed(0x8082, 2);
        talk.feed(0, 3);
        CHECK.same("two lost ones", 2, talk.feed(0x00000000808200L, 7));
        talk.take();
        talk.take();
        talk.take();
        talk.feed(0x8082, 2);
        talk.feed(0, 3);
        CHECK.same("two that wait", 2, talk.feed(0x00000000808200L, 7));
        CHECK.same("three wait", 3, talk.messages());
        CHECK.same("PINGs and PONGs are none", 0, Other.feed(talk, Other.joined(Other.last(9), Other.last(10))));
    }

    // IllegalArgumentException when n is not 1 .. 8
    private static void feedWithNoSuchNumber() {
        for (int n : new int[] {0, -1, 9, 10, 16, 257, Integer.MIN_VALUE, Integer.MAX_VALUE}) {
            for (Talk talk : inEachState()) {
                CHECK.failsIdly("feed " + n, IllegalArgumentException.class, talk, () -> talk.feed(0x8282828282828282L, n));
            }
        }
        CHECK.same("1", 0, new Talk().feed('G', 1));
        CHECK.same("8", 0, new Talk().feed('G', 8));
    }

    // IllegalStateException when the state is CLOSED.
    private static void feedWhenClosed() {
        for (Talk talk : new Talk[] {closed(), refused(), Other.asked(Other.requestWith(5, "Sec-WebSocket-Version: 7"))}) {
            CHECK.failsIdly("closed, 1", IllegalStateException.class, talk, () -> talk.feed(0, 1));
            CHECK.failsIdly("closed, 8", IllegalStateException.class, talk, () -> talk.feed(0x8082, 8));
        }
        CHECK.same("asked", 0, new Talk().feed('G', 1));
        CHECK.same("open", 0, Other.open().feed(130, 1));
        CHECK.same("closing", 0, closing().feed(130, 1));
    }

    // Promise 3. The state.
    private static void state() {
        int[] due = {0, 1, 2, 3, 3};
        Talk[] talks = inEachState();
        for (int i = 0; i < due.length; i++) {
            CHECK.same("state", due[i], talks[i].state());
            CHECK.same("once more", due[i], talks[i].state());
        }
    }

    // Promise 4. The END CODE; 0 as long as there is none (also after a request that was refused).
    private static void endCode() {
        CHECK.same("asked", 0, new Talk().endCode());
        CHECK.same("open", 0, Other.open().endCode());
        CHECK.same("closing", 0, closing().endCode());
        CHECK.same("a bad request", 0, refused().endCode());
        CHECK.same("another version", 0, Other.asked(Other.requestWith(5, "Sec-WebSocket-Version: 7")).endCode());
        CHECK.same("closed", 1000, closed().endCode());
        Talk none = Other.open();
        Other.feed(none, Other.last(Other.CLOSE));
        CHECK.same("a CLOSE without one", 1005, none.endCode());
        Talk violated = Other.open();
        Other.feed(violated, 0);
        CHECK.same("violated", 1002, violated.endCode());
    }

    // Promise 5. The number of bytes in OUT.
    private static void outLength() {
        Talk talk = Other.open();
        CHECK.same("none", 0, talk.outLength());
        talk.ping();
        CHECK.same("two", 2, talk.outLength());
        talk.drop(1);
        CHECK.same("one", 1, talk.outLength());
        talk.drop(1);
        CHECK.same("none again", 0, talk.outLength());
        Other.fillOutByPongs(talk, 470);
        Other.write(talk, Other.many(100, 'x'));
        talk.close(1000);
        CHECK.same("the most there can be", 574, talk.outLength());
        CHECK.same("its last byte", 'x', talk.outAt(573));
    }

    // Promise 6. Byte i (0 the first) of OUT.
    private static void outAt() {
        Talk talk = Other.openWithDraft(0, 128, 255);
        talk.ping();
        int[] due = {137, 3, 0, 128, 255};
        for (int i = 0; i < due.length; i++) {
            CHECK.same("byte " + i, due[i], talk.outAt(i));
        }
        talk.drop(3);
        CHECK.same("0 is the first that is left", 128, talk.outAt(0));
        CHECK.same("the last", 255, talk.outAt(1));
    }

    // IndexOutOfBoundsException when there is none.
    private static void outAtNone() {
        Talk talk = Other.openWithDraft(7, 8, 9);
        CHECK.failsIdly("0 of none", IndexOutOfBoundsException.class, talk, () -> talk.outAt(0));
        talk.ping();
        CHECK.failsIdly("-1", IndexOutOfBoundsException.class, talk, () -> talk.outAt(-1));
        CHECK.failsIdly("5 of 5", IndexOutOfBoundsException.class, talk, () -> talk.outAt(5));
        for (int i : FAR) {
            CHECK.failsIdly("outAt " + i, IndexOutOfBoundsException.class, talk, () -> talk.outAt(i));
        }
        talk.drop(2);
        CHECK.failsIdly("3 of 3", IndexOutOfBoundsException.class, talk, () -> talk.outAt(3));
    }

    // Promise 7. Takes the first n bytes out of OUT.
    private static void drop() {
        Talk talk = Other.openWithDraft(7, 8, 9);
        talk.ping();
        CHECK.same("0", true, talk.drop(0));
        CHECK.same("nothing is gone", Other.row(137, 3, 7, 8, 9), Seen.out(talk));
        CHECK.same("1", true, talk.drop(1));
        CHECK.same("the first is gone", Other.row(3, 7, 8, 9), Seen.out(talk));
        talk.ping();
        CHECK.same("all but one", true, talk.drop(8));
        CHECK.same("one is left", Other.row(9), Seen.out(talk));
        CHECK.same("all", true, talk.drop(1));
        CHECK.same("none is left", Other.row(), Seen.out(talk));
        CHECK.same("none of none", true, talk.drop(0));
        Talk closed = closed();
        CHECK.same("when closed", true, closed.drop(4));
        Talk refused = refused();
        CHECK.same("when refused", true, refused.drop(28));
        CHECK.same("when asked", true, new Talk().drop(0));
        Talk full = Other.openWithDraft(Other.many(100, 'x'));
        Other.fillOutByPongs(full, 470);
        full.close(1000);
        CHECK.same("one of the most there can be", true, full.drop(1));
        CHECK.same("the first is gone", 'p', full.outAt(1));
        CHECK.same("and the rest", true, full.drop(573));
        CHECK.same("when closing", true, closing().drop(4));
    }

    // False, refused, when n is negative or it has not so many.
    private static void dropRefused() {
        Talk talk = Other.openWithDraft(7, 8, 9);
        refusesToDrop(talk, 1);
        talk.ping();
        refusesToDrop(talk, -1);
        refusesToDrop(talk, 6);
        for (int n : FAR) {
            refusesToDrop(talk, n);
        }
        talk.drop(2);
        refusesToDrop(talk, 4);
    }

    private static void refusesToDrop(Talk talk, int n) {
        String before = Seen.allAndDraft(talk);
        CHECK.same("drop " + n, false, talk.drop(n));
        CHECK.same("drop " + n + " changes nothing", before, Seen.allAndDraft(talk));
    }

    // Promise 8. How many messages wait.
    private static void messages() {
        Talk talk = Other.open();
        for (int i = 0; i < 6; i++) {
            CHECK.same("behind " + i, Math.min(i, 4), talk.messages());
            Other.feed(talk, Other.last(Other.TEXT));
        }
        for (int left = 3; left >= 0; left--) {
            talk.take();
            CHECK.same("left", left, talk.messages());
        }
        Other.feed(talk, Other.notLast(Other.TEXT));
        CHECK.same("one under way does not wait", 0, talk.messages());
    }

    // Promise 9. How many were delivered in all, lost ones too.
    private static void delivered() {
        Talk talk = Other.open();
        for (int i = 0; i < 6; i++) {
            CHECK.same("behind " + i, i, talk.delivered());
            Other.feed(talk, Other.last(Other.TEXT));
        }
        talk.take();
        CHECK.same("taken ones count", 6, talk.delivered());
        Other.feed(talk, Other.notLast(Other.TEXT, 'a'));
        CHECK.same("one under way does not", 6, talk.delivered());
        Other.feed(talk, Other.last(Other.MORE, 0xFF));
        CHECK.same("nor one that violates", 6, talk.delivered());
    }

    // Promise 10. The kind of message k (0 the oldest): 1 TEXT, 2 BYTES.
    private static void kind() {
        Talk talk = withMessages(1, 1, 1, 1);
        for (int k = 0; k < 4; k++) {
            CHECK.same("kind " + k, 1 + k % 2, talk.kind(k));
        }
        talk.take();
        CHECK.same("the next is the oldest", 2, talk.kind(0));
    }

    // Promise 11. The length of message k.
    private static void length() {
        Talk talk = withMessages(0, 1, 126, 300);
        CHECK.same("lengths", Other.row(0, 1, 126, 300),
                Other.row(talk.length(0), talk.length(1), talk.length(2), talk.length(3)));
        talk.take();
        CHECK.same("the next is the oldest", 1, talk.length(0));
    }

    // Promise 12. Byte i of message k.
    private static void byteAt() {
        Talk talk = withMessages(1, 300, 2, 3);
        CHECK.same("the only one", 'a', talk.byteAt(0, 0));
        CHECK.same("the 300th", 'b', talk.byteAt(1, 299));
        CHECK.same("of the last message", 'd', talk.byteAt(3, 2));
        talk.take();
        CHECK.same("the next is the oldest", 'b', talk.byteAt(0, 0));
        Other.feed(talk, Other.last(Other.BYTES, 0, 128, 255));
        CHECK.same("0, 128 and 255", Other.row(0, 128, 255),
                Other.row(talk.byteAt(3, 0), talk.byteAt(3, 1), talk.byteAt(3, 2)));
    }

    // Promises 10 to 12. NoSuchElementException when there is none. / when there is no message k
    private static void noMessage() {
        int[][] messages = {{}, {1}, {0, 5, 0, 300}};
        for (int[] lengths : messages) {
            Talk talk = withMessages(lengths);
            hasNot(talk, -1);
            hasNot(talk, lengths.length);
            for (int k : FAR) {
                hasNot(talk, k);
            }
        }
        Talk taken = withMessages(1, 1);
        taken.take();
        hasNot(taken, 1);
        taken.take();
        hasNot(taken, 0);
        Talk lost = withMessages(1, 1, 1, 1, 1);
        hasNot(lost, 4);
        for (Talk talk : inEachState()) {
            hasNot(talk, 0);
        }
    }

    private static void hasNot(Talk talk, int k) {
        CHECK.failsIdly("kind " + k, NoSuchElementException.class, talk, () -> talk.kind(k));
        CHECK.failsIdly("length " + k, NoSuchElementException.class, talk, () -> talk.length(k));
        for (int i : new int[] {0, -1, 300, Integer.MAX_VALUE}) {
            CHECK.failsIdly("byteAt " + k + ", " + i, NoSuchElementException.class, talk, () -> talk.byteAt(k, i));
        }
    }

    // IndexOutOfBoundsException when it has no byte i.
    private static void noByteOfMessage() {
        int[] lengths = {0, 1, 300, 4};
        Talk talk = withMessages(lengths);
        for (int k = 0; k < 4; k++) {
            int here = k;
            for (int i : new int[] {-1, lengths[k], lengths[k] + 1, Integer.MIN_VALUE, Integer.MAX_VALUE}) {
                CHECK.failsIdly("byteAt " + k + ", " + i, IndexOutOfBoundsException.class, talk, () -> talk.byteAt(here, i));
            }
        }
        Talk shorter = withMessages(300, 1, 1, 1);
        shorter.take();
        Other.feed(shorter, Other.last(Other.TEXT, 's'));
        CHECK.failsIdly("a shorter one where a longer one was", IndexOutOfBoundsException.class, shorter,
                () -> shorter.byteAt(3, 1));
    }

    // Promise 13. The oldest message waits no more: its length.
    private static void take() {
        Talk talk = withMessages(0, 7, 300);
        CHECK.same("an empty one", 0, talk.take());
        CHECK.same("two wait", 2, talk.messages());
        CHECK.same("the next", 7, talk.take());
        CHECK.same("the one behind it", Other.many(300, 'c'), Seen.message(talk, 0));
        CHECK.same("the last", 300, talk.take());
        CHECK.same("none waits", 0, talk.messages());
        Talk left = withMessages(3);
        Other.feed(left, 0);
        CHECK.same("when closed", 3, left.take());
    }

    // NoSuchElementException when there is none.
    private static void takeNone() {
        for (Talk talk : inEachState()) {
            CHECK.failsIdly("take", NoSuchElementException.class, talk, talk::take);
        }
        Talk taken = withMessages(1);
        taken.take();
        CHECK.failsIdly("take", NoSuchElementException.class, taken, taken::take);
        Talk begun = Other.open();
        Other.feed(begun, Other.notLast(Other.TEXT, 'a'));
        CHECK.failsIdly("take one under way", NoSuchElementException.class, begun, begun::take);
        Other.feed(begun, Other.last(Other.MORE));
        CHECK.same("it comes all the same", 1, begun.take());
    }

    // Promise 14. How many PONGs came in.
    private static void pongs() {
        Talk talk = Other.open();
        CHECK.same("none", 0, talk.pongs());
        for (int i = 1; i <= 20; i++) {
            Other.feed(talk, Other.last(Other.PONG, Other.many(i * 6, 255)));
            CHECK.same("pongs", i, talk.pongs());
        }
        Other.feed(talk, Other.last(Other.PING));
        talk.ping();
        CHECK.same("what is said is none", 20, talk.pongs());
        Other.feed(talk, Other.joined(Other.last(Other.CLOSE), Other.last(Other.PONG)));
        CHECK.same("nor is one that is lost", 20, talk.pongs());
    }

    // Promise 15. Puts n bytes behind the draft, the lowest one of w first.
    private static void writeLowestFirst() {
        int[] due = {0x81, 0x72, 0x63, 0x54, 0x45, 0x36, 0x27, 0xF8};
        for (int n = 1; n <= 8; n++) {
            Talk talk = Other.openWithDraft('a');
            CHECK.same("write " + n, true, talk.write(0xF827364554637281L, n));
            CHECK.same("draft", Other.joined(Other.row('a'), java.util.Arrays.copyOf(due, n)), Seen.draft(talk));
        }
        for (Talk talk : inEachState()) {
            CHECK.same("in each state", true, talk.write(0, 8));
            CHECK.same("its bytes", 8, Seen.draft(talk).length);
        }
    }

    // False, refused, when n is not 1 .. 8
    private static void writeRefused() {
        for (int n : new int[] {0, -1, 9, 10, 64, Integer.MIN_VALUE, Integer.MAX_VALUE}) {
            for (Talk talk : inEachState()) {
                refusesToWrite(talk, n);
                Other.write(talk, 'a', 'b');
                refusesToWrite(talk, n);
            }
        }
    }

    private static void refusesToWrite(Talk talk, int n) {
        String before = Seen.allAndDraft(talk);
        CHECK.same("write " + n, false, talk.write(0x4141414141414141L, n));
        CHECK.same("write " + n + " changes nothing", before, Seen.allAndDraft(talk));
    }

    // or it would have more than 100
    private static void writeUpTo100() {
        for (int n = 1; n <= 8; n++) {
            Talk just = Other.openWithDraft(Other.many(100 - n, 'd'));
            CHECK.same("just 100", true, just.write(0, n));
            CHECK.same("draft", Other.joined(Other.many(100 - n, 'd'), Other.many(n, 0)), Seen.draft(just));
            refusesToWrite(just, 1);
            refusesToWrite(just, 8);
            Talk over = Other.openWithDraft(Other.many(101 - n, 'd'));
            refusesToWrite(over, n);
            CHECK.same("one fewer", n > 1, over.write(0, n - 1));
        }
    }

    // Promise 16. The draft has no bytes.
    private static void clear() {
        Talk talk = Other.open();
        talk.clear();
        CHECK.same("it had none", Other.row(), Seen.draft(talk));
        Other.write(talk, Other.many(100, 'd'));
        talk.clear();
        CHECK.same("it had 100", Other.row(), Seen.draft(talk));
        Other.write(talk, Other.many(100, 'e'));
        CHECK.same("there is room again", Other.many(100, 'e'), Seen.draft(talk));
        for (Talk other : inEachState()) {
            Other.write(other, 1, 2, 3);
            String before = Seen.all(other);
            other.clear();
            CHECK.same("in each state", before + ", draft []", Seen.allAndDraft(other));
        }
    }

    private static void sends(int frames, int[] due, int[] draft, int kind, int size) {
        Talk talk = Other.openWithDraft(draft);
        String what = draft.length + " bytes by " + size;
        CHECK.same(what, frames, talk.send(kind, size));
        CHECK.same(what, due, Seen.out(talk));
        CHECK.same(what + ": the draft stays", draft, Seen.draft(talk));
        CHECK.same(what + ": the state stays", 1, talk.state());
    }

    // Promise 17. Says the draft .. in frames of size bytes each (the last one may have fewer; ..), the first of the kind,
    // the others MORE, the last of them last. Answers how many frames.
    private static void sendInFrames() {
        int[] draft = {'a', 'b', 'c', 'd', 'e'};
        sends(5, Other.row(1, 1, 'a', 0, 1, 'b', 0, 1, 'c', 0, 1, 'd', 128, 1, 'e'), draft, 1, 1);
        sends(3, Other.row(2, 2, 'a', 'b', 0, 2, 'c', 'd', 128, 1, 'e'), draft, 2, 2);
        sends(2, Other.row(1, 4, 'a', 'b', 'c', 'd', 128, 1, 'e'), draft, 1, 4);
        sends(1, Other.row(129, 5, 'a', 'b', 'c', 'd', 'e'), draft, 1, 5);
        sends(1, Other.row(130, 5, 'a', 'b', 'c', 'd', 'e'), draft, 2, 6);
        sends(1, Other.row(130, 5, 'a', 'b', 'c', 'd', 'e'), draft, 2, 100);
        sends(2, Other.row(1, 2, 'a', 'b', 128, 2, 'c', 'd'), Other.row('a', 'b', 'c', 'd'), 1, 2);
        int[] full = Other.many(100, 'f');
        sends(1, Other.joined(Other.row(129, 100), full), full, 1, 100);
        sends(2, Other.joined(Other.row(1, 99), Other.many(99, 'f'), Other.row(128, 1, 'f')), full, 1, 99);
        sends(2, Other.joined(Other.row(1, 50), Other.many(50, 'f'), Other.row(128, 50), Other.many(50, 'f')), full, 1, 50);
        Talk ones = Other.openWithDraft(full);
        CHECK.same("a hundred frames", 100, ones.send(2, 1));
        CHECK.same("are 300 bytes", 300, ones.outLength());
        CHECK.same("a character may be cut", 2, Other.openWithDraft(0xC3, 0xA9).send(1, 1));
    }

    // a draft without bytes is one frame
    private static void sendWithoutBytes() {
        for (int size : new int[] {0, 1, 50, 100}) {
            sends(1, Other.row(129, 0), Other.row(), 1, size);
            sends(1, Other.row(130, 0), Other.row(), 2, size);
        }
    }

    // size 0: all in one frame
    private static void sendSize0() {
        sends(1, Other.row(129, 1, 'a'), Other.row('a'), 1, 0);
        sends(1, Other.joined(Other.row(130, 100), Other.many(100, 255)), Other.many(100, 255), 2, 0);
    }

    // IllegalArgumentException when kind is not 1 or 2
    private static void sendKinds() {
        for (int kind : new int[] {0, 3, -1, 8, 9, 10, 128, 129, 257, Integer.MIN_VALUE, Integer.MAX_VALUE}) {
            for (Talk talk : inEachState()) {
                CHECK.failsIdly("kind " + kind, IllegalArgumentException.class, talk, () -> talk.send(kind, 0));
            }
        }
        CHECK.same("1", 1, Other.open().send(1, 0));
        CHECK.same("2", 1, Other.open().send(2, 0));
    }

    // size is not 0 .. 100
    private static void sendSizes() {
        for (int size : new int[] {-1, 101, -100, 256, Integer.MIN_VALUE, Integer.MAX_VALUE}) {
            for (Talk talk : inEachState()) {
                Other.write(talk, 'a', 'b');
                CHECK.failsIdly("1 by " + size, IllegalArgumentException.class, talk, () -> talk.send(1, size));
                CHECK.failsIdly("2 by " + size, IllegalArgumentException.class, talk, () -> talk.send(2, size));
            }
        }
        CHECK.same("0", 1, Other.openWithDraft('a', 'b').send(1, 0));
        CHECK.same("100", 1, Other.openWithDraft('a', 'b').send(1, 100));
    }

    // or the kind is 1 and the draft is no text of characters
    private static void sendNoText() {
        int[][] drafts = {{0x80}, {0xFF}, {0xC3}, {'a', 0xE2, 0x82}, {0xED, 0xA0, 0x80}, {0xF4, 0x90, 0x80, 0x80}};
        for (int[] draft : drafts) {
            for (Talk talk : inEachState()) {
                Other.write(talk, draft);
                CHECK.failsIdly("no text", IllegalArgumentException.class, talk, () -> talk.send(1, 0));
            }
            sends(1, Other.joined(Other.row(130, draft.length), draft), draft, 2, 0);
        }
        Talk last = Other.openWithDraft(Other.joined(Other.many(99, 'a'), Other.row(0xC3)));
        CHECK.failsIdly("the 100th byte", IllegalArgumentException.class, last, () -> last.send(1, 0));
    }

    // IllegalStateException when the state is not OPEN
    private static void sendWhenNotOpen() {
        for (Talk talk : notOpen()) {
            CHECK.failsIdly("a draft without bytes", IllegalStateException.class, talk, () -> talk.send(1, 0));
            Other.write(talk, 'a', 'b');
            CHECK.failsIdly("TEXT", IllegalStateException.class, talk, () -> talk.send(1, 100));
            CHECK.failsIdly("BYTES", IllegalStateException.class, talk, () -> talk.send(2, 1));
        }
    }

    // or OUT would have more than 400 bytes
    private static void sendUpTo400() {
        int[][] sizes = {{0, 1}, {100, 1}, {10, 1}, {9, 2}, {5, 2}, {3, 4}, {1, 10}};
        for (int[] size : sizes) {
            int bytes = 10 + 2 * size[1];
            Talk just = Other.open();
            Other.fillOut(just, 400 - bytes);
            Other.write(just, Other.many(10, 'x'));
            CHECK.same("just 400", size[1], just.send(1, size[0]));
            CHECK.same("400 bytes", 400, just.outLength());
            Talk over = Other.open();
            Other.fillOut(over, 401 - bytes);
            Other.write(over, Other.many(10, 'x'));
            CHECK.failsIdly("401", IllegalStateException.class, over, () -> over.send(2, size[0]));
            over.drop(1);
            CHECK.same("one fewer", size[1], over.send(2, size[0]));
        }
        Talk empty = Other.open();
        Other.fillOut(empty, 398);
        CHECK.same("without bytes, just 400", 1, empty.send(1, 0));
        CHECK.failsIdly("without bytes, 402", IllegalStateException.class, empty, () -> empty.send(1, 0));
        Talk beyond = Other.open();
        Other.fillOutByPongs(beyond, 470);
        CHECK.failsIdly("when it has more already", IllegalStateException.class, beyond, () -> beyond.send(1, 0));
    }

    // Promise 18. Says a PING with the draft.
    private static void ping() {
        for (int n : new int[] {0, 1, 99, 100}) {
            Talk talk = Other.openWithDraft(Other.many(n, 0xFF));
            talk.ping();
            CHECK.same("PING of " + n, Other.joined(Other.row(137, n), Other.many(n, 0xFF)), Seen.out(talk));
            CHECK.same("the draft stays", Other.many(n, 0xFF), Seen.draft(talk));
            CHECK.same("the state stays", 1, talk.state());
        }
    }

    // IllegalStateException when the state is not OPEN
    private static void pingWhenNotOpen() {
        for (Talk talk : notOpen()) {
            CHECK.failsIdly("ping", IllegalStateException.class, talk, talk::ping);
        }
    }

    // or OUT would have more than 400 bytes
    private static void pingUpTo400() {
        for (int n : new int[] {0, 1, 100}) {
            Talk just = Other.open();
            Other.fillOut(just, 398 - n);
            Other.write(just, Other.many(n, 'x'));
            just.ping();
            CHECK.same("just 400", 400, just.outLength());
            CHECK.failsIdly("no more", IllegalStateException.class, just, just::ping);
            Talk over = Other.open();
            Other.fillOut(over, 399 - n);
            Other.write(over, Other.many(n, 'x'));
            CHECK.failsIdly("401", IllegalStateException.class, over, over::ping);
            over.drop(1);
            over.ping();
            CHECK.same("one fewer", 400, over.outLength());
        }
        Talk beyond = Other.open();
        Other.fillOutByPongs(beyond, 470);
        CHECK.failsIdly("when it has more already", IllegalStateException.class, beyond, beyond::ping);
    }

    // Promise 19. Says a CLOSE with the code, as two bytes, and the draft behind it ..; the state is CLOSING.
    private static void close() {
        for (int n : new int[] {0, 1, 99, 100}) {
            Talk talk = Other.openWithDraft(Other.many(n, 'r'));
            talk.close(1000);
            CHECK.same("CLOSE with " + n, Other.joined(Other.row(136, 2 + n, 3, 232), Other.many(n, 'r')), Seen.out(talk));
            CHECK.same("closing", 2, talk.state());
            CHECK.same("no end code", 0, talk.endCode());
            CHECK.same("the draft stays", n, Seen.draft(talk).length);
        }
        for (int code : new int[] {1000, 1001, 1002, 1003, 1007, 1008, 1009, 1010, 1011, 3000, 3583, 3584, 4095, 4096,
            4999}) {
            Talk talk = Other.open();
            talk.close(code);
            CHECK.same("code " + code, Other.row(136, 2, code / 256, code % 256), Seen.out(talk));
        }
    }

    // (however much OUT has)
    private static void closeHoweverMuchOutHas() {
        for (int n : new int[] {396, 397, 400, 470}) {
            Talk talk = Other.open();
            Other.fillOutByPongs(talk, n);
            Other.write(talk, Other.many(100, 'r'));
            int[] before = Seen.out(talk);
            talk.close(4999);
            int[] said = Other.joined(Other.row(136, 102, 19, 135), Other.many(100, 'r'));
            CHECK.same("behind " + n, Other.joined(before, said), Seen.out(talk));
        }
    }

    // IllegalArgumentException when the code is none that may stand in a CLOSE
    private static void closeWithNoCode() {
        for (int code : new int[] {999, 1004, 1005, 1006, 1012, 1015, 2000, 2999, 5000, 0, -1, -1000, 65535, 66536,
            65536 + 3000, Integer.MIN_VALUE, Integer.MAX_VALUE}) {
            for (Talk talk : inEachState()) {
                CHECK.failsIdly("code " + code, IllegalArgumentException.class, talk, () -> talk.close(code));
            }
        }
    }

    // or the draft is no text of characters
    private static void closeWithNoText() {
        int[][] drafts = {{0x80}, {0xFF}, {0xC3}, {'a', 0xE2, 0x82}, {0xF0, 0x8F, 0x80, 0x80}};
        for (int[] draft : drafts) {
            for (Talk talk : inEachState()) {
                Other.write(talk, draft);
                CHECK.failsIdly("no text", IllegalArgumentException.class, talk, () -> talk.close(1000));
            }
        }
        Talk whole = Other.openWithDraft(0xE2, 0x82);
        Other.write(whole, 0xAC);
        whole.close(1000);
        CHECK.same("a text", 7, whole.outLength());
    }

    // IllegalStateException when the state is not OPEN.
    private static void closeWhenNotOpen() {
        for (Talk talk : notOpen()) {
            CHECK.failsIdly("close", IllegalStateException.class, talk, () -> talk.close(1000));
            Other.write(talk, 'a');
            CHECK.failsIdly("close with a draft", IllegalStateException.class, talk, () -> talk.close(4999));
        }
    }
}

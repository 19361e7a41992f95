import java.util.NoSuchElementException;

/** What the document says of every call: refused ones change nothing, the first exception, 512 calls. */
final class EveryCallTest {
    private static final Check CHECK = new Check("EveryCallTest");

    public static void main(String[] args) {
        refusedOnesChangeNothing();
        refusedOnesWithFullDraft();
        refusedOnesWhenOutIsFull();
        looksChangeNothing();
        firstNamedOfFeed();
        firstNamedOfByteAt();
        firstNamedOfSend();
        firstNamedOfClose();
        the512thFeed();
        the512thOfEach();
        noneKnowsOfAnother();
        CHECK.end();
    }

    private static void refuses(Class<? extends RuntimeException> want, Runnable call) {
        CHECK.fails("refused", want, call);
    }

    /** Every call that is refused in every state. */
    private static void refuseAll(Talk talk) {
        for (int n : new int[] {-1, 0, 9}) {
            refuses(IllegalArgumentException.class, () -> talk.feed(0x1122334455667788L, n));
            CHECK.same("write " + n, false, talk.write(0x1122334455667788L, n));
        }
        refuses(IndexOutOfBoundsException.class, () -> talk.outAt(-1));
        refuses(IndexOutOfBoundsException.class, () -> talk.outAt(575));
        CHECK.same("drop -1", false, talk.drop(-1));
        CHECK.same("drop 575", false, talk.drop(575));
        for (int k : new int[] {-1, 4}) {
            refuses(NoSuchElementException.class, () -> talk.kind(k));
            refuses(NoSuchElementException.class, () -> talk.length(k));
            refuses(NoSuchElementException.class, () -> talk.byteAt(k, 0));
        }
        refuses(IllegalArgumentException.class, () -> talk.send(0, 0));
        refuses(IllegalArgumentException.class, () -> talk.send(2, 101));
        refuses(IllegalArgumentException.class, () -> talk.close(1005));
    }

    private static void feedWithRefusals(Talk talk, Talk plain, int... bytes) {
        for (int b : bytes) {
            CHECK.same("answers", plain.feed(b, 1), talk.feed(b, 1));
        }
        refuseAll(talk);
        CHECK.same("all is the same", Seen.allAndDraft(plain), Seen.allAndDraft(talk));
    }

    // A call that throws, or is refused, changes nothing (in the midst of a request, a frame, a message, a character)
    private static void refusedOnesChangeNothing() {
        Talk talk = new Talk();
        Talk plain = new Talk();
        refuseAll(talk);
        int[] request = Other.codes(Other.request(Other.GOOD));
        int half = request.length / 2;
        feedWithRefusals(talk, plain, java.util.Arrays.copyOf(request, half));
        refuses(IllegalStateException.class, talk::ping);
        feedWithRefusals(talk, plain, java.util.Arrays.copyOfRange(request, half, request.length));
        CHECK.same("OUT is dropped", true, talk.drop(129) && plain.drop(129));
        Talk late = lateIn(plain);
        Talk lateToo = lateIn(plain);
        int[][] parts = {{1}, {130}, {0, 0}, {0, 0, 0xE2}, {0x82}, {137, 129}, {1, 2, 3, 4}, {5}, {128}, {129, 0, 0, 0, 0},
            {0xAC}};
        for (int[] part : parts) {
            feedWithRefusals(late, lateToo, part);
        }
        CHECK.same("the message", Other.row(0xE2, 0x82, 0xAC), Seen.message(late, 0));
        CHECK.same("the answer", Other.row(138, 1, 4), Seen.out(late));
    }

    /** An open one as it is there, which has more calls left. */
    private static Talk lateIn(Talk plain) {
        Talk late = Other.open();
        CHECK.same("an open one", Seen.allAndDraft(plain), Seen.allAndDraft(late));
        return late;
    }

    // A call that throws, or is refused, changes nothing (when the draft is full, or no text)
    private static void refusedOnesWithFullDraft() {
        Talk talk = Other.openWithDraft(Other.joined(Other.many(99, 'd'), Other.row(0xC3)));
        String before = Seen.allAndDraft(talk);
        for (int n = 1; n <= 8; n++) {
            CHECK.same("write", false, talk.write(-1, n));
        }
        refuses(IllegalArgumentException.class, () -> talk.send(1, 0));
        refuses(IllegalArgumentException.class, () -> talk.close(1000));
        refuseAll(talk);
        CHECK.same("all is the same", before, Seen.allAndDraft(talk));
        talk.clear();
        CHECK.same("and a draft without bytes is a text", 1, talk.send(1, 0));
    }

    // A call that throws, or is refused, changes nothing (when OUT is full, and when the talk is over)
    private static void refusedOnesWhenOutIsFull() {
        Talk talk = Other.open();
        Other.fillOut(talk, 400);
        Other.write(talk, 'a', 'b');
        String before = Seen.allAndDraft(talk);
        refuses(IllegalStateException.class, () -> talk.send(1, 1));
        refuses(IllegalStateException.class, () -> talk.send(2, 0));
        refuses(IllegalStateException.class, talk::ping);
        refuses(NoSuchElementException.class, talk::take);
        refuses(IndexOutOfBoundsException.class, () -> talk.outAt(400));
        CHECK.same("drop 401", false, talk.drop(401));
        refuseAll(talk);
        CHECK.same("all is the same", before, Seen.allAndDraft(talk));
        Other.feed(talk, 0);
        String over = Seen.allAndDraft(talk);
        refuses(IllegalStateException.class, () -> talk.feed(1, 1));
        refuses(IllegalStateException.class, () -> talk.send(1, 1));
        refuses(IllegalStateException.class, talk::ping);
        refuses(IllegalStateException.class, () -> talk.close(1000));
        refuseAll(talk);
        CHECK.same("all is the same", over, Seen.allAndDraft(talk));
    }

    // Nothing is promised beyond the answers and state changes described (a look changes nothing)
    private static void looksChangeNothing() {
        Talk talk = Other.openWithDraft('d');
        talk.ping();
        Other.feed(talk, Other.joined(Other.last(1, 'a'), Other.last(10), Other.notLast(2, 0xC3), Other.row(0, 129, 0)));
        String before = Seen.allAndDraft(talk);
        for (int i = 0; i < 3; i++) {
            CHECK.same("looks", Other.row(1, 0, 3, 137, 1, 1, 1, 1, 'a', 1), Other.row(talk.state(), talk.endCode(),
                    talk.outLength(), talk.outAt(0), talk.messages(), talk.delivered(), talk.kind(0), talk.length(0),
                    talk.byteAt(0, 0), talk.pongs()));
        }
        CHECK.same("all is the same", before, Seen.allAndDraft(talk));
        Other.feed(talk, 0, 0, 0, 5, 128, 128, 0, 0, 0, 0);
        CHECK.same("and what was half read goes on", Other.row(0xC3, 5), Seen.message(talk, 1));
    }

    // where several exceptions that a call names fit, it is the one that it names first
    private static void firstNamedOfFeed() {
        Talk closed = Other.asked("\r\n\r\n");
        CHECK.failsIdly("n and closed", IllegalArgumentException.class, closed, () -> closed.feed(0, 0));
        CHECK.failsIdly("n and closed", IllegalArgumentException.class, closed, () -> closed.feed(0, 9));
        CHECK.failsIdly("closed alone", IllegalStateException.class, closed, () -> closed.feed(0, 8));
    }

    private static void firstNamedOfByteAt() {
        Talk talk = Other.open();
        Other.feed(talk, Other.last(Other.TEXT, 'a'));
        CHECK.failsIdly("k and i", NoSuchElementException.class, talk, () -> talk.byteAt(1, -1));
        CHECK.failsIdly("k and i", NoSuchElementException.class, talk, () -> talk.byteAt(-1, 1));
        CHECK.failsIdly("i alone", IndexOutOfBoundsException.class, talk, () -> talk.byteAt(0, 1));
    }

    private static void firstNamedOfSend() {
        Talk full = Other.open();
        Other.fillOut(full, 400);
        Talk closing = Other.open();
        closing.close(1000);
        for (Talk talk : new Talk[] {full, closing, new Talk(), Other.asked("\r\n\r\n")}) {
            Other.write(talk, 0xFF);
            CHECK.failsIdly("kind", IllegalArgumentException.class, talk, () -> talk.send(3, 0));
            CHECK.failsIdly("size", IllegalArgumentException.class, talk, () -> talk.send(2, -1));
            CHECK.failsIdly("no text", IllegalArgumentException.class, talk, () -> talk.send(1, 0));
            CHECK.failsIdly("state or OUT alone", IllegalStateException.class, talk, () -> talk.send(2, 0));
        }
    }

    private static void firstNamedOfClose() {
        Talk closing = Other.open();
        closing.close(1000);
        for (Talk talk : new Talk[] {closing, new Talk(), Other.asked("\r\n\r\n")}) {
            CHECK.failsIdly("code", IllegalArgumentException.class, talk, () -> talk.close(1006));
            CHECK.failsIdly("state alone", IllegalStateException.class, talk, () -> talk.close(1000));
            Other.write(talk, 0xFF);
            CHECK.failsIdly("no text", IllegalArgumentException.class, talk, () -> talk.close(1000));
        }
    }

    // An object is used for at most 512 calls after it has been made (up to the last of them it does what it must)
    private static void the512thFeed() {
        for (int kind : new int[] {Other.TEXT, Other.PING, Other.PONG}) {
            Talk talk = Other.open();
            int frames = 0;
            while (talk.callsLeft() > 4) {
                talk.feed(128 + kind | 0x8000, 6);
                frames++;
                if (kind == Other.PING) {
                    CHECK.same("the answer is dropped", true, talk.drop(2));
                }
            }
            CHECK.same("delivered", kind == Other.TEXT ? frames : 0, talk.delivered());
            CHECK.same("pongs", kind == Other.PONG ? frames : 0, talk.pongs());
            CHECK.same("more than 200", true, frames > 200);
            while (talk.callsLeft() > 1) {
                CHECK.same("open", 1, talk.state());
            }
            CHECK.same("the 512th", kind == Other.TEXT ? 1 : 0, talk.feed(128 + kind | 0x8000, 6));
        }
    }

    private static Talk withOneCallLeft() {
        Talk talk = Other.openWithDraft('d');
        talk.ping();
        Other.feed(talk, Other.joined(Other.last(2, 'm', 'n'), Other.last(10)));
        while (talk.callsLeft() > 1) {
            talk.write(0, 0);
        }
        return talk;
    }

    private static void the512thOfEach() {
        CHECK.same("feed", 0, withOneCallLeft().feed(129, 1));
        CHECK.same("state", 1, withOneCallLeft().state());
        CHECK.same("endCode", 0, withOneCallLeft().endCode());
        CHECK.same("outLength", 3, withOneCallLeft().outLength());
        CHECK.same("outAt", 'd', withOneCallLeft().outAt(2));
        CHECK.same("drop", true, withOneCallLeft().drop(3));
        CHECK.same("messages", 1, withOneCallLeft().messages());
        CHECK.same("delivered", 1, withOneCallLeft().delivered());
        CHECK.same("kind", 2, withOneCallLeft().kind(0));
        CHECK.same("length", 2, withOneCallLeft().length(0));
        CHECK.same("byteAt", 'n', withOneCallLeft().byteAt(0, 1));
        CHECK.same("take", 2, withOneCallLeft().take());
        CHECK.same("pongs", 1, withOneCallLeft().pongs());
        CHECK.same("write", true, withOneCallLeft().write(0, 8));
        CHECK.same("send", 1, withOneCallLeft().send(1, 0));
        CHECK.same("clear", "nothing", Check.thrownBy(withOneCallLeft()::clear));
        CHECK.same("ping", "nothing", Check.thrownBy(withOneCallLeft()::ping));
        CHECK.same("close", "nothing", Check.thrownBy(() -> withOneCallLeft().close(1000)));
        CHECK.same("one that fails", "IllegalArgumentException", Check.thrownBy(() -> withOneCallLeft().close(1005)));
    }

    // the same calls always give the same answers (LANGUAGE.md, 13): nothing is shared between objects
    private static void noneKnowsOfAnother() {
        Talk one = Other.open();
        Talk other = Other.open();
        Other.write(one, 'o', 'n', 'e');
        Other.write(other, 'x');
        Other.feed(one, Other.joined(Other.notLast(1, 'a', 0xC3), Other.row(0, 129, 0)));
        Other.feed(other, Other.joined(Other.last(2, 0xFF), Other.last(10)));
        one.ping();
        other.send(2, 0);
        Other.feed(one, 0, 0, 0, 0xA9, 128, 128, 0, 0, 0, 0);
        CHECK.same("one", "state 1, end 0, delivered 1, pongs 0, out 137 3 111 110 101 , message 1: 97 195 169 ",
                Seen.all(one));
        CHECK.same("the other", "state 1, end 0, delivered 1, pongs 1, out 130 1 120 , message 2: 255 ", Seen.all(other));
    }
}

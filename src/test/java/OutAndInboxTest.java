import java.util.NoSuchElementException;

/** Promises 5 to 13: OUT and what is dropped from it; messages that wait, are looked at, taken or lost. */
final class OutAndInboxTest {
    private static final Check CHECK = new Check("OutAndInboxTest");
    private static final int[] NO_PLACES = {-1, Integer.MIN_VALUE, Integer.MAX_VALUE};

    public static void main(String[] args) {
        outAt();
        drop();
        noMessages();
        messages();
        lostOnes();
        manyMessages();
        CHECK.end();
    }

    private static void outAt() {
        Talk fresh = new Talk();
        CHECK.same("nothing in OUT", 0, fresh.outLength());
        CHECK.failsIdly("outAt(0) of none", IndexOutOfBoundsException.class, fresh, () -> fresh.outAt(0));
        Talk talk = Other.openWithDraft(0, 127, 128, 255);
        talk.ping();
        CHECK.same("out", Other.row(137, 4, 0, 127, 128, 255), Seen.out(talk));
        CHECK.failsIdly("outAt(6)", IndexOutOfBoundsException.class, talk, () -> talk.outAt(6));
        for (int i : NO_PLACES) {
            CHECK.failsIdly("outAt " + i, IndexOutOfBoundsException.class, talk, () -> talk.outAt(i));
        }
    }

    private static void drop() {
        Talk talk = Other.openWithDraft(1, 2, 3, 4);
        talk.ping();
        String before = Seen.all(talk);
        for (int n : new int[] {-1, 7, 8, Integer.MIN_VALUE, Integer.MAX_VALUE}) {
            CHECK.same("drop " + n, false, talk.drop(n));
            CHECK.same("drop " + n + " changes nothing", before, Seen.all(talk));
        }
        CHECK.same("drop 0", true, talk.drop(0));
        CHECK.same("drop 0 takes nothing", before, Seen.all(talk));
        CHECK.same("drop 3", true, talk.drop(3));
        CHECK.same("what is left", Other.row(2, 3, 4), Seen.out(talk));
        CHECK.fails("outAt(3)", IndexOutOfBoundsException.class, () -> talk.outAt(3));
        talk.ping();
        CHECK.same("what is said goes behind it", Other.row(2, 3, 4, 137, 4, 1, 2, 3, 4), Seen.out(talk));
        CHECK.same("drop 10", false, talk.drop(10));
        CHECK.same("drop 9", true, talk.drop(9));
        CHECK.same("nothing left", 0, talk.outLength());
        CHECK.same("drop 1 of none", false, talk.drop(1));
        CHECK.same("drop 0 of none", true, talk.drop(0));
        CHECK.same("a new object drops 0", true, new Talk().drop(0));
        CHECK.same("and no more", false, new Talk().drop(1));
    }

    private static void hasNot(Talk talk, int k) {
        CHECK.failsIdly("kind " + k, NoSuchElementException.class, talk, () -> talk.kind(k));
        CHECK.failsIdly("length " + k, NoSuchElementException.class, talk, () -> talk.length(k));
        CHECK.failsIdly("byteAt " + k, NoSuchElementException.class, talk, () -> talk.byteAt(k, 0));
        CHECK.failsIdly("byteAt " + k + ", -1", NoSuchElementException.class, talk, () -> talk.byteAt(k, -1));
        CHECK.failsIdly("byteAt " + k + ", 500", NoSuchElementException.class, talk, () -> talk.byteAt(k, 500));
    }

    private static void noMessages() {
        for (Talk talk : new Talk[] {new Talk(), Other.open(), Other.asked("\r\n\r\n")}) {
            CHECK.same("messages", 0, talk.messages());
            CHECK.same("delivered", 0, talk.delivered());
            hasNot(talk, 0);
            for (int k : NO_PLACES) {
                hasNot(talk, k);
            }
            CHECK.failsIdly("take of none", NoSuchElementException.class, talk, talk::take);
        }
    }

    private static void messages() {
        Talk talk = Other.open();
        Other.feed(talk, Other.joined(Other.last(1, 'a', 'b'), Other.last(2), Other.last(2, 0, 128, 255)));
        CHECK.same("messages", 3, talk.messages());
        CHECK.same("kinds", Other.row(1, 2, 2), Other.row(talk.kind(0), talk.kind(1), talk.kind(2)));
        CHECK.same("lengths", Other.row(2, 0, 3), Other.row(talk.length(0), talk.length(1), talk.length(2)));
        CHECK.same("message 0", Other.row('a', 'b'), Seen.message(talk, 0));
        CHECK.same("message 2", Other.row(0, 128, 255), Seen.message(talk, 2));
        hasNot(talk, 3);
        hasNot(talk, 4);
        int[] lengths = {2, 0, 3};
        for (int k = 0; k < 3; k++) {
            int here = k;
            for (int i : new int[] {-1, lengths[k], lengths[k] + 1, Integer.MIN_VALUE, Integer.MAX_VALUE}) {
                CHECK.failsIdly("byteAt " + k + ", " + i, IndexOutOfBoundsException.class, talk,
                        () -> talk.byteAt(here, i));
            }
        }
        CHECK.same("take", 2, talk.take());
        CHECK.same("the next is the oldest", 2, talk.kind(0));
        CHECK.same("messages", 2, talk.messages());
        hasNot(talk, 2);
        CHECK.same("take an empty one", 0, talk.take());
        CHECK.same("take", 3, talk.take());
        CHECK.fails("take of none", NoSuchElementException.class, talk::take);
        CHECK.same("delivered stays", 3, talk.delivered());
    }

    private static void lostOnes() {
        Talk talk = Other.open();
        for (int i = 0; i < 4; i++) {
            CHECK.same("delivers", 1, Other.feed(talk, Other.last(2, Other.many(i + 1, i))));
        }
        CHECK.same("four wait", 4, talk.messages());
        hasNot(talk, 4);
        CHECK.same("a lost one counts", 2, Other.feed(talk, Other.joined(Other.last(1, 'l', 'o'), Other.last(1))));
        CHECK.same("four wait", 4, talk.messages());
        CHECK.same("delivered", 6, talk.delivered());
        for (int i = 0; i < 4; i++) {
            CHECK.same("the first four stay", Other.many(i + 1, i), Seen.message(talk, i));
        }
        CHECK.same("take", 1, talk.take());
        CHECK.same("delivers", 1, Other.feed(talk, Other.last(1, 'n')));
        CHECK.same("a new one waits last", Other.row('n'), Seen.message(talk, 3));
        CHECK.same("its kind", 1, talk.kind(3));
        CHECK.same("delivered", 7, talk.delivered());
    }

    private static void manyMessages() {
        Talk talk = Other.open();
        int next = 0;
        int oldest = 0;
        for (int step = 0; step < 30; step++) {
            for (int i = 0; i <= step % 3 && next - oldest < 4; i++) {
                Other.feed(talk, Other.last(1 + next % 2, Other.many(next % 5, next)));
                next++;
            }
            CHECK.same("messages", next - oldest, talk.messages());
            for (int k = 0; k < next - oldest; k++) {
                CHECK.same("message " + k, Other.many((oldest + k) % 5, oldest + k), Seen.message(talk, k));
                CHECK.same("kind " + k, 1 + (oldest + k) % 2, talk.kind(k));
            }
            CHECK.same("take", oldest % 5, talk.take());
            oldest++;
        }
    }
}

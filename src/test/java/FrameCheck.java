import java.util.Arrays;

/** Checks which bytes violate, at the last one and at none before it, and which are fine. */
final class FrameCheck {
    private final Check check;

    FrameCheck(Check check) {
        this.check = check;
    }

    void violates(String what, int code, int... bytes) {
        violatesIn(what, Other.open(), code, bytes);
    }

    void violatesIn(String what, Talk talk, int code, int... bytes) {
        int[] outBefore = Seen.out(talk);
        int stateBefore = talk.state();
        Other.feed(talk, Arrays.copyOf(bytes, bytes.length - 1));
        check.same(what + ": state one byte before", stateBefore, talk.state());
        check.same(what + ": end code one byte before", 0, talk.endCode());
        check.same(what + ": out one byte before", outBefore, Seen.out(talk));
        Other.feed(talk, bytes[bytes.length - 1]);
        check.same(what + ": state", 3, talk.state());
        check.same(what + ": end code", code, talk.endCode());
        int[] said = stateBefore == 1 ? Other.row(136, 2, code >> 8, code & 255) : Other.row();
        check.same(what + ": out", Other.joined(outBefore, said), Seen.out(talk));
    }

    /** The bytes are a frame or more, or a part of one, at which nothing is said. */
    void isFine(String what, int... bytes) {
        Talk talk = Other.open();
        Other.feed(talk, bytes);
        check.same(what + ": state", 1, talk.state());
        check.same(what + ": end code", 0, talk.endCode());
        check.same(what + ": out", Other.row(), Seen.out(talk));
    }
}

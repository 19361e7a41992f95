import java.util.Arrays;
import java.util.function.Consumer;
import java.util.function.ToIntFunction;

/** All that the face shows of a talk, looked at on copies of it, so that its own calls do not run out. */
final class Seen {
    private final Talk talk;
    private final Consumer<FramedTalk> first;
    private final int callsOfFirst;
    private FramedTalk copy;
    private int looksLeft;

    private Seen(Talk talk, Consumer<FramedTalk> first, int callsOfFirst) {
        this.talk = talk;
        this.first = first;
        this.callsOfFirst = callsOfFirst;
    }

    private static Seen asItIs(Talk talk) {
        return new Seen(talk, copy -> { }, 0);
    }

    private int look(ToIntFunction<FramedTalk> call) {
        if (looksLeft == 0) {
            looksLeft = talk.callsLeft() - callsOfFirst;
            if (looksLeft <= 0) {
                throw new AssertionError("no call is left to look at the talk");
            }
            copy = talk.copy();
            first.accept(copy);
        }
        looksLeft--;
        return call.applyAsInt(copy);
    }

    static String all(Talk talk) {
        Seen seen = asItIs(talk);
        StringBuilder all = new StringBuilder();
        all.append("state ").append(seen.look(FramedTalk::state));
        all.append(", end ").append(seen.look(FramedTalk::endCode));
        all.append(", delivered ").append(seen.look(FramedTalk::delivered));
        all.append(", pongs ").append(seen.look(FramedTalk::pongs));
        all.append(", out ");
        for (int b : seen.out()) {
            all.append(b).append(' ');
        }
        int messages = seen.look(FramedTalk::messages);
        for (int k = 0; k < messages; k++) {
            int here = k;
            all.append(", message ").append(seen.look(t -> t.kind(here))).append(": ");
            for (int b : seen.message(k)) {
                all.append(b).append(' ');
            }
        }
        return all.toString();
    }

    static String allAndDraft(Talk talk) {
        return all(talk) + ", draft " + Arrays.toString(draft(talk));
    }

    /** The draft, as a PING shows it; when none can be said, as many zeros as it has bytes. */
    static int[] draft(Talk talk) {
        if (asItIs(talk).look(FramedTalk::state) != 1) {
            return new int[100 - roomOfDraft(talk.copy())];
        }
        Consumer<FramedTalk> sayIt = copy -> {
            copy.drop(copy.outLength());
            copy.ping();
        };
        int[] said = new Seen(talk, sayIt, 3).out();
        return Arrays.copyOfRange(said, 2, said.length);
    }

    private static int roomOfDraft(FramedTalk copy) {
        int room = 0;
        while (room < 100 && copy.write(0, 8)) {
            room += 8;
        }
        while (room < 100 && copy.write(0, 1)) {
            room++;
        }
        return room;
    }

    static int[] out(Talk talk) {
        return asItIs(talk).out();
    }

    private int[] out() {
        int[] out = new int[look(FramedTalk::outLength)];
        for (int i = 0; i < out.length; i++) {
            int here = i;
            out[i] = look(t -> t.outAt(here));
        }
        return out;
    }

    static String outText(Talk talk) {
        StringBuilder text = new StringBuilder();
        for (int b : out(talk)) {
            text.append((char) b);
        }
        return text.toString();
    }

    static int[] message(Talk talk, int k) {
        return asItIs(talk).message(k);
    }

    private int[] message(int k) {
        int[] content = new int[look(t -> t.length(k))];
        for (int i = 0; i < content.length; i++) {
            int here = i;
            content[i] = look(t -> t.byteAt(k, here));
        }
        return content;
    }
}

import java.util.ArrayList;
import java.util.List;
import java.util.function.Function;

/**
 * A FramedTalk whose calls are counted and kept. The document promises nothing behind the 512th call of an
 * object, so no test may make more: what a test looks at beside its own calls is looked at on copies, new
 * objects on which the same calls have been made.
 */
final class Talk {
    static final int MOST_CALLS = 512;

    private final FramedTalk real = new FramedTalk();
    private final List<Function<FramedTalk, Object>> calls = new ArrayList<>();

    int feed(long w, int n) {
        return (int) answer(talk -> talk.feed(w, n));
    }

    int state() {
        return (int) answer(FramedTalk::state);
    }

    int endCode() {
        return (int) answer(FramedTalk::endCode);
    }

    int outLength() {
        return (int) answer(FramedTalk::outLength);
    }

    int outAt(int i) {
        return (int) answer(talk -> talk.outAt(i));
    }

    boolean drop(int n) {
        return (boolean) answer(talk -> talk.drop(n));
    }

    int messages() {
        return (int) answer(FramedTalk::messages);
    }

    int delivered() {
        return (int) answer(FramedTalk::delivered);
    }

    int kind(int k) {
        return (int) answer(talk -> talk.kind(k));
    }

    int length(int k) {
        return (int) answer(talk -> talk.length(k));
    }

    int byteAt(int k, int i) {
        return (int) answer(talk -> talk.byteAt(k, i));
    }

    int take() {
        return (int) answer(FramedTalk::take);
    }

    int pongs() {
        return (int) answer(FramedTalk::pongs);
    }

    boolean write(long w, int n) {
        return (boolean) answer(talk -> talk.write(w, n));
    }

    void clear() {
        answer(talk -> {
            talk.clear();
            return null;
        });
    }

    int send(int kind, int size) {
        return (int) answer(talk -> talk.send(kind, size));
    }

    void ping() {
        answer(talk -> {
            talk.ping();
            return null;
        });
    }

    void close(int code) {
        answer(talk -> {
            talk.close(code);
            return null;
        });
    }

    int callsLeft() {
        return MOST_CALLS - calls.size();
    }

    private Object answer(Function<FramedTalk, Object> call) {
        if (callsLeft() == 0) {
            throw new AssertionError("a test calls an object more than 512 times");
        }
        calls.add(call);
        return call.apply(real);
    }

    /** A look at the talk as it is now, which has as many calls as are left of the 512. */
    FramedTalk copy() {
        FramedTalk copy = new FramedTalk();
        for (Function<FramedTalk, Object> call : calls) {
            try {
                call.apply(copy);
            } catch (RuntimeException e) {
                continue;
            }
        }
        return copy;
    }
}

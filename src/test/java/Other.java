import java.io.ByteArrayOutputStream;
import java.nio.charset.StandardCharsets;

/** The other end of the talk: it asks, and it says masked frames. */
final class Other {
    static final int MORE = 0;
    static final int TEXT = 1;
    static final int BYTES = 2;
    static final int CLOSE = 8;
    static final int PING = 9;
    static final int PONG = 10;

    static final String KEY = "dGhlIHNhbXBsZSBub25jZQ==";
    static final String PROOF = "s3pPLMBiTxaQ9kYGzzhZRbK+xOo=";
    static final String[] GOOD = {
        "GET /chat HTTP/1.1", "Host: a", "Upgrade: websocket", "Connection: Upgrade",
        "Sec-WebSocket-Key: " + KEY, "Sec-WebSocket-Version: 13"
    };
    private static final int[] MASK = {0x37, 0xfa, 0x21, 0x3d};

    private Other() {
    }

    static String request(String... lines) {
        return String.join("\r\n", lines) + "\r\n\r\n";
    }

    /** The good request with line i put in another's place; without it when the line is null. */
    static String requestWith(int i, String line) {
        StringBuilder request = new StringBuilder();
        for (int k = 0; k < GOOD.length; k++) {
            String here = k == i ? line : GOOD[k];
            if (here != null) {
                request.append(here).append("\r\n");
            }
        }
        return request.append("\r\n").toString();
    }

    static String requestAnd(String line) {
        return String.join("\r\n", GOOD) + "\r\n" + line + "\r\n\r\n";
    }

    static int[] codes(String text) {
        return bytes(text.getBytes(StandardCharsets.ISO_8859_1));
    }

    static int[] text(String text) {
        return bytes(text.getBytes(StandardCharsets.UTF_8));
    }

    private static int[] bytes(byte[] raw) {
        int[] bytes = new int[raw.length];
        for (int i = 0; i < raw.length; i++) {
            bytes[i] = raw[i] & 255;
        }
        return bytes;
    }

    static int[] many(int n, int b) {
        int[] bytes = new int[n];
        java.util.Arrays.fill(bytes, b);
        return bytes;
    }

    static int[] row(int... bytes) {
        return bytes;
    }

    static int[] joined(int[]... parts) {
        ByteArrayOutputStream all = new ByteArrayOutputStream();
        for (int[] part : parts) {
            for (int b : part) {
                all.write(b);
            }
        }
        return bytes(all.toByteArray());
    }

    static int[] last(int kind, int... content) {
        return frame(128 + kind, content);
    }

    static int[] notLast(int kind, int... content) {
        return frame(kind, content);
    }

    static int[] frame(int first, int[] content) {
        int n = content.length;
        int[] length = n < 126 ? row(128 + n) : row(128 + 126, n >> 8, n & 255);
        return joined(row(first), length, MASK, masked(content));
    }

    static int[] masked(int[] content) {
        int[] masked = new int[content.length];
        for (int i = 0; i < content.length; i++) {
            masked[i] = content[i] ^ MASK[i % 4];
        }
        return masked;
    }

    /** Feeds the bytes eight at a time, as long as the talk is not closed. */
    static int feed(Talk talk, int... bytes) {
        return feedBy(8, talk, bytes);
    }

    static int feedBy(int most, Talk talk, int... bytes) {
        int messages = 0;
        for (int from = 0; from < bytes.length && talk.state() != 3; from += most) {
            int n = Math.min(most, bytes.length - from);
            messages += talk.feed(wordOf(bytes, from, n), n);
        }
        return messages;
    }

    /** n of the bytes as they are fed or written: the first one lowest. */
    static long wordOf(int[] bytes, int from, int n) {
        long w = 0;
        for (int i = 0; i < n; i++) {
            w |= (long) bytes[from + i] << (8 * i);
        }
        return w;
    }

    static Talk asked(String request) {
        Talk talk = new Talk();
        feed(talk, codes(request));
        return talk;
    }

    /** A talk that is open and has nothing in OUT. */
    static Talk open() {
        Talk talk = asked(request(GOOD));
        talk.drop(talk.outLength());
        return talk;
    }

    static void write(Talk talk, int... bytes) {
        for (int from = 0; from < bytes.length; from += 8) {
            int n = Math.min(8, bytes.length - from);
            if (!talk.write(wordOf(bytes, from, n), n)) {
                throw new AssertionError("the draft is full");
            }
        }
    }

    static Talk openWithDraft(int... draft) {
        Talk talk = open();
        write(talk, draft);
        return talk;
    }

    /** Puts n bytes behind OUT, which is open and has no draft: PINGs of at most 100 bytes. */
    static void fillOut(Talk talk, int n) {
        for (int left = n; left > 0;) {
            int here = left > 102 ? Math.min(102, left - 2) : left;
            talk.clear();
            write(talk, many(here - 2, 'f'));
            talk.ping();
            left -= here;
        }
        talk.clear();
    }

    /** The same by PINGs that come in, which may fill it up to 470 bytes. */
    static void fillOutByPongs(Talk talk, int n) {
        for (int left = n; left > 0;) {
            int here = left > 127 ? Math.min(127, left - 2) : left;
            feed(talk, last(PING, many(here - 2, 'p')));
            left -= here;
        }
    }
}

import java.util.Arrays;

/** A short talk: the other end asks and says Hello, this end says hi and closes. */
public final class Example {
    public static void main(String[] args) {
        FramedTalk talk = new FramedTalk();
        feed(talk, bytes("GET /chat HTTP/1.1\r\nHost: a\r\nUpgrade: websocket\r\nConnection: Upgrade\r\n"
                + "Sec-WebSocket-Key: dGhlIHNhbXBsZSBub25jZQ==\r\nSec-WebSocket-Version: 13\r\n\r\n"));
        System.out.print(text(takeOut(talk)));
        System.out.println("state " + talk.state());

        feed(talk, 0x81, 0x85, 0x37, 0xfa, 0x21, 0x3d, 0x7f, 0x9f, 0x4d, 0x51, 0x58);
        while (talk.messages() > 0) {
            System.out.println("kind " + talk.kind(0) + ": " + text(takeMessage(talk)));
        }

        talk.write('h' | 'i' << 8, 2);
        talk.send(1, 0);
        System.out.println("said " + Arrays.toString(takeOut(talk)));

        talk.clear();
        talk.close(1000);
        System.out.println("said " + Arrays.toString(takeOut(talk)) + ", state " + talk.state());

        feed(talk, 0x88, 0x82, 0, 0, 0, 0, 0x03, 0xe8);
        System.out.println("state " + talk.state() + ", end code " + talk.endCode());
    }

    private static void feed(FramedTalk talk, int... bytes) {
        for (int from = 0; from < bytes.length && talk.state() != 3; from += 8) {
            int n = Math.min(8, bytes.length - from);
            long w = 0;
            for (int i = 0; i < n; i++) {
                w |= (long) bytes[from + i] << 8 * i;
            }
            talk.feed(w, n);
        }
    }

    private static int[] takeOut(FramedTalk talk) {
        int[] bytes = new int[talk.outLength()];
        for (int i = 0; i < bytes.length; i++) {
            bytes[i] = talk.outAt(i);
        }
        talk.drop(bytes.length);
        return bytes;
    }

    private static int[] takeMessage(FramedTalk talk) {
        int[] bytes = new int[talk.length(0)];
        for (int i = 0; i < bytes.length; i++) {
            bytes[i] = talk.byteAt(0, i);
        }
        talk.take();
        return bytes;
    }

    private static int[] bytes(String text) {
        return text.chars().toArray();
    }

    private static String text(int[] bytes) {
        return new String(bytes, 0, bytes.length);
    }
}

import java.nio.charset.StandardCharsets;
import java.security.GeneralSecurityException;
import java.security.MessageDigest;
import java.util.Arrays;
import java.util.Base64;

/** Checks how a request is answered: at its very last byte, whichever way it is cut into calls. */
final class RequestCheck {
    static final String BAD = "HTTP/1.1 400 Bad Request\r\n\r\n";
    static final String OTHER_VERSION = "HTTP/1.1 426 Upgrade Required\r\nSec-WebSocket-Version: 13\r\n\r\n";
    static final String UNTOUCHED = "state 0, end 0, delivered 0, pongs 0, out ";

    private final Check check;

    RequestCheck(Check check) {
        this.check = check;
    }

    void good(String what, String request) {
        goodWithProof(what, request, Other.PROOF);
    }

    void goodWithKey(String what, String key) {
        goodWithProof(what, Other.requestWith(4, "Sec-WebSocket-Key: " + key), proofOf(key));
    }

    void goodWithProof(String what, String request, String proof) {
        ends(what, request, 1, "HTTP/1.1 101 Switching Protocols\r\nUpgrade: websocket\r\n"
                + "Connection: Upgrade\r\nSec-WebSocket-Accept: " + proof + "\r\n\r\n");
    }

    void bad(String what, String request) {
        ends(what, request, 3, BAD);
    }

    void otherVersion(String what, String request) {
        ends(what, request, 3, OTHER_VERSION);
    }

    void isGood(boolean due, String what, String request) {
        if (due) {
            good(what, request);
        } else {
            bad(what, request);
        }
    }

    void notEnded(String what, String begun) {
        check.same(what + " is no end", UNTOUCHED, Seen.all(Other.asked(begun)));
    }

    private void ends(String what, String request, int state, String answer) {
        int[] bytes = Other.codes(request);
        Talk early = new Talk();
        Other.feedBy(7, early, Arrays.copyOf(bytes, bytes.length - 1));
        check.same(what + ": before its last byte", UNTOUCHED, Seen.all(early));
        check.same(what + ": the last byte delivers", 0, early.feed(bytes[bytes.length - 1], 1));
        check.same(what + ": state", state, early.state());
        check.same(what + ": answer", answer, Seen.outText(early));
        check.same(what + ": end code", 0, early.endCode());
        check.same(what + ": by eights", Seen.all(early), Seen.all(Other.asked(request)));
    }

    static String proofOf(String key) {
        String text = key + "258EAFA5-E914-47DA-95CA-C5AB0DC85B11";
        try {
            byte[] digest = MessageDigest.getInstance("SHA-1").digest(text.getBytes(StandardCharsets.US_ASCII));
            return Base64.getEncoder().encodeToString(digest);
        } catch (GeneralSecurityException e) {
            throw new AssertionError(e);
        }
    }
}

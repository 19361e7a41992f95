import java.nio.charset.StandardCharsets;
import java.security.MessageDigest;
import java.util.Base64;
import java.util.Random;

/** Promises 1, 2, 3, 4: a new object, and the request with which the other end begins. */
final class RequestTest {
    private static final String BAD = "HTTP/1.1 400 Bad Request\r\n\r\n";
    private static final String OTHER_VERSION =
            "HTTP/1.1 426 Upgrade Required\r\nSec-WebSocket-Version: 13\r\n\r\n";
    private static final Check CHECK = new Check("RequestTest");

    public static void main(String[] args) throws Exception {
        newObject();
        proofs();
        firstLines();
        headerLines();
        everyByteInNameAndValue();
        namesThatMustStandOnce();
        words();
        keys();
        versions();
        ends();
        limit();
        framesBehindTheRequest();
        CHECK.end();
    }

    private static void newObject() {
        FramedTalk talk = new FramedTalk();
        CHECK.same("a new object", "state 0, end 0, delivered 0, pongs 0, out ", Seen.all(talk));
        CHECK.same("its messages", 0, talk.messages());
    }

    private static void good(String what, String request) {
        goodWithProof(what, request, Other.PROOF);
    }

    private static void goodWithProof(String what, String request, String proof) {
        ends(what, request, 1, "HTTP/1.1 101 Switching Protocols\r\nUpgrade: websocket\r\n"
                + "Connection: Upgrade\r\nSec-WebSocket-Accept: " + proof + "\r\n\r\n");
    }

    private static void bad(String what, String request) {
        ends(what, request, 3, BAD);
    }

    /** It is answered at its very last byte, whichever way it is cut into calls. */
    private static void ends(String what, String request, int state, String answer) {
        int[] bytes = Other.codes(request);
        FramedTalk early = new FramedTalk();
        Other.feedBy(7, early, java.util.Arrays.copyOf(bytes, bytes.length - 1));
        CHECK.same(what + ": before its last byte", "state 0, end 0, delivered 0, pongs 0, out ", Seen.all(early));
        CHECK.same(what + ": the last byte delivers", 0, early.feed(bytes[bytes.length - 1], 1));
        CHECK.same(what + ": state", state, early.state());
        CHECK.same(what + ": answer", answer, Seen.outText(early));
        CHECK.same(what + ": end code", 0, early.endCode());
        FramedTalk talk = Other.asked(request);
        CHECK.same(what + ": by eights", Seen.all(early), Seen.all(talk));
    }

    private static void proofs() throws Exception {
        good("the good request", Other.request(Other.GOOD));
        Random random = new Random(7);
        for (int i = 0; i < 300; i++) {
            byte[] raw = new byte[16];
            random.nextBytes(raw);
            String key = Base64.getEncoder().encodeToString(raw);
            goodWithProof("key " + key, Other.requestWith(4, "Sec-WebSocket-Key: " + key), proofOf(key));
        }
    }

    private static String proofOf(String key) throws Exception {
        String text = key + "258EAFA5-E914-47DA-95CA-C5AB0DC85B11";
        byte[] digest = MessageDigest.getInstance("SHA-1").digest(text.getBytes(StandardCharsets.US_ASCII));
        return Base64.getEncoder().encodeToString(digest);
    }

    private static void firstLines() {
        for (String line : new String[] {"GET / HTTP/1.1", "GET !~ HTTP/1.1", "GET HTTP/1.1 HTTP/1.1"}) {
            good(line, Other.requestWith(0, line));
        }
        String[] wrong = {
            "GET  HTTP/1.1", "GET HTTP/1.1", "GET  / HTTP/1.1", "GET /  HTTP/1.1", "GET / / HTTP/1.1",
            "get / HTTP/1.1", "POST / HTTP/1.1", "GET / HTTP/1.0", "GET / http/1.1", "GET / HTTP/1.1 ",
            " GET / HTTP/1.1", "GET / HTTP/1.", "GET / HTTP/1.11", "GET\t/ HTTP/1.1", "GET /\tHTTP/1.1",
            "GET", "G", "GET /", "HTTP/1.1", "GET /a\rb HTTP/1.1", "GET /a\nb HTTP/1.1", "GETT/ HTTP/1.1",
        };
        for (String line : wrong) {
            bad("first line " + line, Other.requestWith(0, line));
        }
        bad("no first line", Other.requestWith(0, null));
        for (int c = 0; c < 256; c++) {
            String request = Other.requestWith(0, "GET /" + (char) c + " HTTP/1.1");
            if (c >= 33 && c <= 126) {
                good("first line with " + c, request);
            } else {
                bad("first line with " + c, request);
            }
        }
    }

    private static void headerLines() {
        for (String line : new String[] {"X:", "X: ", "9:a", "-:a", "a-B-9: \t :: ,\"", "X: host: a", "Origin: b"}) {
            good("with " + line, Other.requestAnd(line));
        }
        for (String line : new String[] {":", ": a", "X", "X :a", " X:a", "X_:a", "X a", "\tX: a", "X: a\rb",
            "X: a\nb", "X: a\r", "X: a\n", "\rX: a", "\nX: a", "X", "Xy"}) {
            bad("with " + line, Other.requestAnd(line));
        }
        bad("a single LF in place of CR LF", String.join("\n", Other.GOOD) + "\r\n\r\n");
        good("the order of lines is free", Other.request(Other.GOOD[0], Other.GOOD[5], Other.GOOD[4],
                Other.GOOD[3], Other.GOOD[2], Other.GOOD[1]));
        bad("the first line last", Other.request(Other.GOOD[1], Other.GOOD[2], Other.GOOD[3], Other.GOOD[4],
                Other.GOOD[5], Other.GOOD[0]));
    }

    private static void everyByteInNameAndValue() {
        for (int c = 0; c < 256; c++) {
            boolean inName = c >= 'a' && c <= 'z' || c >= 'A' && c <= 'Z' || c >= '0' && c <= '9' || c == '-';
            boolean inValue = c >= 32 && c <= 126 || c == 9;
            check(inName || c == ':', "name with " + c, Other.requestAnd("x" + (char) c + "y: v"));
            check(inValue, "value with " + c, Other.requestAnd("x: v" + (char) c + "w"));
            check(inValue, "value that begins with " + c, Other.requestAnd("x:" + (char) c));
            check(inValue, "host with " + c, Other.requestWith(1, "Host: v" + (char) c + "w"));
        }
    }

    private static void check(boolean isGood, String what, String request) {
        if (isGood) {
            good(what, request);
        } else {
            bad(what, request);
        }
    }

    private static void namesThatMustStandOnce() {
        String[] small = {null, "host: b", "upgrade: websocket", "connection: upgrade",
            "sec-websocket-key: " + Other.KEY, "sec-websocket-version: 13"};
        for (int i = 1; i < Other.GOOD.length; i++) {
            bad("without " + small[i], Other.requestWith(i, null));
            good("small " + small[i], Other.requestWith(i, small[i]));
            String name = small[i].substring(0, small[i].indexOf(':'));
            String value = small[i].substring(small[i].indexOf(':') + 1);
            good("capital " + name, Other.requestWith(i, name.toUpperCase() + ":" + value));
            bad("two lines " + name, Other.requestAnd(small[i]));
            bad("two lines, one empty, " + name, Other.requestAnd(name.toUpperCase() + ":"));
            good("a name that is longer than " + name, Other.requestAnd(name + "s:" + value));
            good("a name that is shorter than " + name, Other.requestAnd(name.substring(1) + ":" + value));
            bad("only a longer name " + name, Other.requestWith(i, name + "-:" + value));
            for (int at = 0; at < name.length(); at++) {
                String other = name.substring(0, at) + "0" + name.substring(at + 1);
                bad("only " + other, Other.requestWith(i, other + ":" + value));
                good("also " + other, Other.requestAnd(other + ":" + value));
            }
            good("spaces at both ends " + name, Other.requestWith(i, name + ": \t " + value + "\t \t"));
            good("no space " + name, Other.requestWith(i, name + ":" + value.trim()));
        }
        bad("empty host", Other.requestWith(1, "Host:"));
        bad("host of spaces", Other.requestWith(1, "Host: \t \t"));
        good("host of one sign", Other.requestWith(1, "Host:,"));
    }

    private static void words() {
        String[] upgrade = {"websocket", "WEBSOCKET", "WebSocket", "a, websocket", "websocket,a", ",websocket,",
            "a ,\twebsocket\t , b", "a b,websocket", "websocket,websocket", ",,,WEBsocket"};
        String[] noUpgrade = {"", ",", "web socket", "websockets", "ebsocket", "websocket a", "a websocket",
            "websocket;a", "\"websocket\"", "websocket/13", "web,socket", "websocke", "upgrade", "wEbSoCkEt13", "Xebsocket",
            "websockeX", "webXocket"};
        for (String value : upgrade) {
            good("upgrade " + value, Other.requestWith(2, "Upgrade: " + value));
        }
        for (String value : noUpgrade) {
            bad("upgrade " + value, Other.requestWith(2, "Upgrade: " + value));
        }
        for (String value : new String[] {"upgrade", "UPGRADE", "keep-alive, Upgrade", "Upgrade, keep-alive",
            "a,b,c,\tuPGRADE \t", "close,upgrade,close"}) {
            good("connection " + value, Other.requestWith(3, "Connection: " + value));
        }
        for (String value : new String[] {"", "keep-alive", "upgraded", "upgrade close", "upgrade;", "websocket",
            "up,grade", "-upgrade", "Xpgrade", "upgradX"}) {
            bad("connection " + value, Other.requestWith(3, "Connection: " + value));
        }
    }

    private static void keys() throws Exception {
        String front = "dGhlIHNhbXBsZSBub25jZ";
        for (int c = 33; c <= 126; c++) {
            String key = front + (char) c + "==";
            if ("AQgw".indexOf(c) >= 0) {
                goodWithProof("last sign " + (char) c, Other.requestWith(4, "Sec-WebSocket-Key: " + key), proofOf(key));
            } else {
                bad("last sign " + (char) c, Other.requestWith(4, "Sec-WebSocket-Key: " + key));
            }
        }
        String signs = "ABCDEFGHIJKLMNOPQRSTUVWXYZabcdefghijklmnopqrstuvwxyz0123456789+/";
        for (int c = 33; c <= 126; c++) {
            for (int at = 0; at < 21; at += 5) {
                String key = Other.KEY.substring(0, at) + (char) c + Other.KEY.substring(at + 1);
                if (signs.indexOf(c) >= 0) {
                    goodWithProof("key " + key, Other.requestWith(4, "Sec-WebSocket-Key: " + key), proofOf(key));
                } else {
                    bad("key " + key, Other.requestWith(4, "Sec-WebSocket-Key: " + key));
                }
            }
        }
        for (String key : new String[] {"", "==", "A==", Other.KEY + "=", "A" + Other.KEY, Other.KEY.substring(1),
            front + "Q=", front + "Q", front + "QA=", front + "Q=A", front + "AAA", front + " Q==", front + "A= =",
            Other.KEY + "," + Other.KEY, front + "Q", "a=" + Other.KEY.substring(2)}) {
            bad("key " + key, Other.requestWith(4, "Sec-WebSocket-Key: " + key));
        }
        goodWithProof("spaces round the key", Other.requestWith(4, "Sec-WebSocket-Key:\t " + Other.KEY + " \t"),
                Other.PROOF);
    }

    private static void versions() {
        for (String value : new String[] {"", "1", "3", "8", "12", "14", "113", "130", "013", "13, 8", "13,", "1 3",
            "+13", "13.0", "x"}) {
            ends("version " + value, Other.requestWith(5, "Sec-WebSocket-Version: " + value), 3, OTHER_VERSION);
        }
        good("version with spaces", Other.requestWith(5, "Sec-WebSocket-Version: \t13\t "));
        bad("a bad one with another version",
                Other.requestWith(5, "Sec-WebSocket-Version: 8").replace("Host: a", "Host:"));
        bad("a bad line with another version",
                Other.requestWith(5, "Sec-WebSocket-Version: 8").replace("Host: a", "Host: a\r\n?"));
    }

    private static void ends() {
        bad("only the end", "\r\n\r\n");
        bad("an empty first line", "\r\n" + Other.request(Other.GOOD));
        bad("only a first line", Other.request("GET / HTTP/1.1"));
        bad("CR CR LF CR LF", "\r\r\n\r\n");
        bad("LF CR LF CR LF", "\n\r\n\r\n");
        bad("a single CR before the end", String.join("\r\n", Other.GOOD) + "\r\r\n\r\n");
        bad("a single LF before the end", String.join("\r\n", Other.GOOD) + "\n\r\n\r\n");
        bad("a single CR in the middle of the end", String.join("\r\n", Other.GOOD) + "\r\n\r\r\n\r\n");
        bad("a single LF in the middle of the end", String.join("\r\n", Other.GOOD) + "\r\n\n\r\n\r\n");
        bad("LF LF", String.join("\r\n", Other.GOOD) + "\n\n\r\n\r\n");
    }

    private static String ofLength(int n) {
        String short0 = Other.requestAnd("X: ");
        return Other.requestAnd("X: " + "v".repeat(n - short0.length()));
    }

    private static void limit() {
        good("399 bytes", ofLength(399));
        good("400 bytes, the last of which ends it", ofLength(400));
        for (int more = 1; more <= 5; more++) {
            bad("400 of " + (400 + more) + " bytes", ofLength(400 + more).substring(0, 400));
        }
        bad("400 signs", "x".repeat(400));
        bad("400 zeros", "\0".repeat(400));
        bad("400 CRs", "\r".repeat(400));
        bad("200 times LF CR but no end", "\n\r".repeat(200).replace("\r\n\r\n", "\r\n\r "));
        FramedTalk talk = Other.asked(ofLength(402));
        CHECK.same("bytes behind the 400th are lost", BAD, Seen.outText(talk));
    }

    private static void framesBehindTheRequest() {
        FramedTalk talk = new FramedTalk();
        int[] bytes = Other.joined(Other.codes(Other.request(Other.GOOD)), Other.last(Other.TEXT, 'h', 'i'),
                Other.last(Other.PING));
        CHECK.same("a frame right behind the request", 1, Other.feedBy(8, talk, bytes));
        CHECK.same("is a message", 1, talk.messages());
        CHECK.same("and a ping is answered", 129 + 2, talk.outLength());
        FramedTalk refused = new FramedTalk();
        int[] line = Other.codes("x\r\n\r\n");
        Other.feed(refused, Other.joined(line, Other.row(0x81, 0x80, 0)));
        CHECK.same("bytes behind a bad request are lost", "state 3, end 0, delivered 0, pongs 0, out "
                + told(BAD), Seen.all(refused));
        CHECK.failsIdly("feed when closed", IllegalStateException.class, refused, () -> refused.feed(0, 1));
    }

    private static String told(String text) {
        StringBuilder told = new StringBuilder();
        for (int b : Other.codes(text)) {
            told.append(b).append(' ');
        }
        return told.toString();
    }
}

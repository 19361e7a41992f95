import java.util.Base64;
import java.util.Random;

/** Promises 1, 2, 3, 4: a new object, and the request with which the other end begins. */
final class RequestTest {
    private static final Check CHECK = new Check("RequestTest");
    private static final RequestCheck REQUEST = new RequestCheck(CHECK);

    public static void main(String[] args) {
        newObject();
        proofs();
        firstLines();
        headerLines();
        everyByteInNameAndValue();
        namesThatMustStandOnce();
        words();
        keys();
        versions();
        ends();
        limit();
        framesBehindTheRequest();
        CHECK.end();
    }

    private static void newObject() {
        Talk talk = new Talk();
        CHECK.same("a new object", RequestCheck.UNTOUCHED, Seen.all(talk));
        CHECK.same("its messages", 0, talk.messages());
    }

    private static void proofs() {
        REQUEST.good("the good request", Other.request(Other.GOOD));
        Random random = new Random(7);
        for (int i = 0; i < 300; i++) {
            byte[] raw = new byte[16];
            random.nextBytes(raw);
            String key = Base64.getEncoder().encodeToString(raw);
            REQUEST.goodWithKey("key " + key, key);
        }
    }

    private static void firstLines() {
        for (String line : new String[] {"GET / HTTP/1.1", "GET !~ HTTP/1.1", "GET HTTP/1.1 HTTP/1.1"}) {
            REQUEST.good(line, Other.requestWith(0, line));
        }
        String[] wrong = {
            "GET  HTTP/1.1", "GET HTTP/1.1", "GET  / HTTP/1.1", "GET /  HTTP/1.1", "GET / / HTTP/1.1",
            "get / HTTP/1.1", "POST / HTTP/1.1", "GET / HTTP/1.0", "GET / http/1.1", "GET / HTTP/1.1 ",
            " GET / HTTP/1.1", "GET / HTTP/1.", "GET / HTTP/1.11", "GET\t/ HTTP/1.1", "GET /\tHTTP/1.1",
            "GET", "G", "GET /", "HTTP/1.1", "GET /a\rb HTTP/1.1", "GET /a\nb HTTP/1.1", "GETT/ HTTP/1.1",
        };
        for (String line : wrong) {
            REQUEST.bad("first line " + line, Other.requestWith(0, line));
        }
        REQUEST.bad("no first line", Other.requestWith(0, null));
        for (int c = 0; c < 256; c++) {
            String request = Other.requestWith(0, "GET /" + (char) c + " HTTP/1.1");
            if (c >= 33 && c <= 126) {
                REQUEST.good("first line with " + c, request);
            } else {
                REQUEST.bad("first line with " + c, request);
            }
        }
    }

    private static void headerLines() {
        for (String line : new String[] {"X:", "X: ", "9:a", "-:a", "a-B-9: \t :: ,\"", "X: host: a", "Origin: b"}) {
            REQUEST.good("with " + line, Other.requestAnd(line));
        }
        for (String line : new String[] {":", ": a", "X", "X :a", " X:a", "X_:a", "X a", "\tX: a", "X: a\rb",
            "X: a\nb", "X: a\r", "X: a\n", "\rX: a", "\nX: a", "X", "Xy"}) {
            REQUEST.bad("with " + line, Other.requestAnd(line));
        }
        REQUEST.bad("a single LF in place of CR LF", String.join("\n", Other.GOOD) + "\r\n\r\n");
        REQUEST.good("the order of lines is free", Other.request(Other.GOOD[0], Other.GOOD[5], Other.GOOD[4],
                Other.GOOD[3], Other.GOOD[2], Other.GOOD[1]));
        REQUEST.bad("the first line last", Other.request(Other.GOOD[1], Other.GOOD[2], Other.GOOD[3], Other.GOOD[4],
                Other.GOOD[5], Other.GOOD[0]));
    }

    private static void everyByteInNameAndValue() {
        for (int c = 0; c < 256; c++) {
            boolean inName = c >= 'a' && c <= 'z' || c >= 'A' && c <= 'Z' || c >= '0' && c <= '9' || c == '-';
            boolean inValue = c >= 32 && c <= 126 || c == 9;
            REQUEST.isGood(inName || c == ':', "name with " + c, Other.requestAnd("x" + (char) c + "y: v"));
            REQUEST.isGood(inValue, "value with " + c, Other.requestAnd("x: v" + (char) c + "w"));
            REQUEST.isGood(inValue, "value that begins with " + c, Other.requestAnd("x:" + (char) c));
            REQUEST.isGood(inValue, "host with " + c, Other.requestWith(1, "Host: v" + (char) c + "w"));
        }
    }

    private static void namesThatMustStandOnce() {
        String[] small = {null, "host: b", "upgrade: websocket", "connection: upgrade",
            "sec-websocket-key: " + Other.KEY, "sec-websocket-version: 13"};
        for (int i = 1; i < Other.GOOD.length; i++) {
            REQUEST.bad("without " + small[i], Other.requestWith(i, null));
            REQUEST.good("small " + small[i], Other.requestWith(i, small[i]));
            String name = small[i].substring(0, small[i].indexOf(':'));
            String value = small[i].substring(small[i].indexOf(':') + 1);
            REQUEST.good("capital " + name, Other.requestWith(i, name.toUpperCase() + ":" + value));
            REQUEST.bad("two lines " + name, Other.requestAnd(small[i]));
            REQUEST.bad("two lines, one empty, " + name, Other.requestAnd(name.toUpperCase() + ":"));
            REQUEST.good("a name that is longer than " + name, Other.requestAnd(name + "s:" + value));
            REQUEST.good("a name that is shorter than " + name, Other.requestAnd(name.substring(1) + ":" + value));
            REQUEST.bad("only a longer name " + name, Other.requestWith(i, name + "-:" + value));
            for (int at = 0; at < name.length(); at++) {
                String other = name.substring(0, at) + "0" + name.substring(at + 1);
                REQUEST.bad("only " + other, Other.requestWith(i, other + ":" + value));
                REQUEST.good("also " + other, Other.requestAnd(other + ":" + value));
            }
            REQUEST.good("spaces at both ends " + name, Other.requestWith(i, name + ": \t " + value + "\t \t"));
            REQUEST.good("no space " + name, Other.requestWith(i, name + ":" + value.trim()));
        }
        REQUEST.bad("empty host", Other.requestWith(1, "Host:"));
        REQUEST.bad("host of spaces", Other.requestWith(1, "Host: \t \t"));
        REQUEST.good("host of one sign", Other.requestWith(1, "Host:,"));
    }

    private static void words() {
        String[] upgrade = {"websocket", "WEBSOCKET", "WebSocket", "a, websocket", "websocket,a", ",websocket,",
            "a ,\twebsocket\t , b", "a b,websocket", "websocket,websocket", ",,,WEBsocket"};
        String[] noUpgrade = {"", ",", "web socket", "websockets", "ebsocket", "websocket a", "a websocket",
            "websocket;a", "\"websocket\"", "websocket/13", "web,socket", "websocke", "upgrade", "wEbSoCkEt13", "Xebsocket",
            "websockeX", "webXocket"};
        for (String value : upgrade) {
            REQUEST.good("upgrade " + value, Other.requestWith(2, "Upgrade: " + value));
        }
        for (String value : noUpgrade) {
            REQUEST.bad("upgrade " + value, Other.requestWith(2, "Upgrade: " + value));
        }
        for (String value : new String[] {"upgrade", "UPGRADE", "keep-alive, Upgrade", "Upgrade, keep-alive",
            "a,b,c,\tuPGRADE \t", "close,upgrade,close"}) {
            REQUEST.good("connection " + value, Other.requestWith(3, "Connection: " + value));
        }
        for (String value : new String[] {"", "keep-alive", "upgraded", "upgrade close", "upgrade;", "websocket",
            "up,grade", "-upgrade", "Xpgrade", "upgradX"}) {
            REQUEST.bad("connection " + value, Other.requestWith(3, "Connection: " + value));
        }
    }

    private static void keys() {
        String front = "dGhlIHNhbXBsZSBub25jZ";
        for (int c = 33; c <= 126; c++) {
            String key = front + (char) c + "==";
            if ("AQgw".indexOf(c) >= 0) {
                REQUEST.goodWithKey("last sign " + (char) c, key);
            } else {
                REQUEST.bad("last sign " + (char) c, Other.requestWith(4, "Sec-WebSocket-Key: " + key));
            }
        }
        String signs = "ABCDEFGHIJKLMNOPQRSTUVWXYZabcdefghijklmnopqrstuvwxyz0123456789+/";
        for (int c = 33; c <= 126; c++) {
            for (int at = 0; at < 21; at += 5) {
                String key = Other.KEY.substring(0, at) + (char) c + Other.KEY.substring(at + 1);
                if (signs.indexOf(c) >= 0) {
                    REQUEST.goodWithKey("key " + key, key);
                } else {
                    REQUEST.bad("key " + key, Other.requestWith(4, "Sec-WebSocket-Key: " + key));
                }
            }
        }
        for (String key : new String[] {"", "==", "A==", Other.KEY + "=", "A" + Other.KEY, Other.KEY.substring(1),
            front + "Q=", front + "Q", front + "QA=", front + "Q=A", front + "AAA", front + " Q==", front + "A= =",
            Other.KEY + "," + Other.KEY, front + "Q", "a=" + Other.KEY.substring(2)}) {
            REQUEST.bad("key " + key, Other.requestWith(4, "Sec-WebSocket-Key: " + key));
        }
        REQUEST.goodWithProof("spaces round the key", Other.requestWith(4, "Sec-WebSocket-Key:\t " + Other.KEY + " \t"),
                Other.PROOF);
    }

    private static void versions() {
        for (String value : new String[] {"", "1", "3", "8", "12", "14", "113", "130", "013", "13, 8", "13,", "1 3",
            "+13", "13.0", "x"}) {
            REQUEST.otherVersion("version " + value, Other.requestWith(5, "Sec-WebSocket-Version: " + value));
        }
        REQUEST.good("version with spaces", Other.requestWith(5, "Sec-WebSocket-Version: \t13\t "));
        REQUEST.bad("a bad one with another version",
                Other.requestWith(5, "Sec-WebSocket-Version: 8").replace("Host: a", "Host:"));
        REQUEST.bad("a bad line with another version",
                Other.requestWith(5, "Sec-WebSocket-Version: 8").replace("Host: a", "Host: a\r\n?"));
    }

    private static void ends() {
        REQUEST.bad("only the end", "\r\n\r\n");
        REQUEST.bad("an empty first line", "\r\n" + Other.request(Other.GOOD));
        REQUEST.bad("only a first line", Other.request("GET / HTTP/1.1"));
        REQUEST.bad("CR CR LF CR LF", "\r\r\n\r\n");
        REQUEST.bad("LF CR LF CR LF", "\n\r\n\r\n");
        REQUEST.bad("a single CR before the end", String.join("\r\n", Other.GOOD) + "\r\r\n\r\n");
        REQUEST.bad("a single LF before the end", String.join("\r\n", Other.GOOD) + "\n\r\n\r\n");
        REQUEST.bad("a single CR in the middle of the end", String.join("\r\n", Other.GOOD) + "\r\n\r\r\n\r\n");
        REQUEST.bad("a single LF in the middle of the end", String.join("\r\n", Other.GOOD) + "\r\n\n\r\n\r\n");
        REQUEST.bad("LF LF", String.join("\r\n", Other.GOOD) + "\n\n\r\n\r\n");
    }

    private static String ofLength(int n) {
        String short0 = Other.requestAnd("X: ");
        return Other.requestAnd("X: " + "v".repeat(n - short0.length()));
    }

    private static void limit() {
        REQUEST.good("399 bytes", ofLength(399));
        REQUEST.good("400 bytes, the last of which ends it", ofLength(400));
        for (int more = 1; more <= 5; more++) {
            REQUEST.bad("400 of " + (400 + more) + " bytes", ofLength(400 + more).substring(0, 400));
        }
        REQUEST.bad("400 signs", "x".repeat(400));
        REQUEST.bad("400 zeros", "\0".repeat(400));
        REQUEST.bad("400 CRs", "\r".repeat(400));
        REQUEST.bad("200 times LF CR but no end", "\n\r".repeat(200).replace("\r\n\r\n", "\r\n\r "));
        Talk talk = Other.asked(ofLength(402));
        CHECK.same("bytes behind the 400th are lost", RequestCheck.BAD, Seen.outText(talk));
    }

    private static void framesBehindTheRequest() {
        Talk talk = new Talk();
        int[] bytes = Other.joined(Other.codes(Other.request(Other.GOOD)), Other.last(Other.TEXT, 'h', 'i'),
                Other.last(Other.PING));
        CHECK.same("a frame right behind the request", 1, Other.feedBy(8, talk, bytes));
        CHECK.same("is a message", 1, talk.messages());
        CHECK.same("and a ping is answered", 129 + 2, talk.outLength());
        Talk refused = new Talk();
        int[] line = Other.codes("x\r\n\r\n");
        Other.feed(refused, Other.joined(line, Other.row(0x81, 0x80, 0)));
        CHECK.same("bytes behind a bad request are lost", "state 3, end 0, delivered 0, pongs 0, out "
                + told(RequestCheck.BAD), Seen.all(refused));
        CHECK.failsIdly("feed when closed", IllegalStateException.class, refused, () -> refused.feed(0, 1));
    }

    private static String told(String text) {
        StringBuilder told = new StringBuilder();
        for (int b : Other.codes(text)) {
            told.append(b).append(' ');
        }
        return told.toString();
    }
}

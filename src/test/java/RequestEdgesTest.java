import java.util.Arrays;

/**
 * The boundary cases that the document names under 'Terms', up to the digest: a test for each sentence, or for
 * each part of a long one, in the document's order and with its words above it.
 */
final class RequestEdgesTest {
    private static final Check CHECK = new Check("RequestEdgesTest");
    private static final RequestCheck REQUEST = new RequestCheck(CHECK);
    private static final String KEY_FRONT = "dGhlIHNhbXBsZSBub25jZ";

    public static void main(String[] args) {
        bytes();
        states();
        outAtFirst();
        draft();
        firstEnd();
        the400thByte();
        lines();
        firstLine();
        targetOfOneOrMore();
        names();
        nameOfOneOrMore();
        colon();
        valueSigns();
        emptyValue();
        blanksOfValues();
        singleCrOrLf();
        lettersOfNames();
        justOneLineEach();
        otherNames();
        hostIsNotEmpty();
        upgradeWords();
        connectionWords();
        keyOf22Signs();
        lastSignOfKey();
        piecesBetweenCommas();
        base64Signs();
        twoBytesAtTheEnd();
        badRequest();
        otherVersion();
        goodRequest();
        proof();
        digest();
        CHECK.end();
    }

    // BYTES are 0 .. 255.
    private static void bytes() {
        int[] edges = {0, 1, 127, 128, 255};
        Talk talk = Other.openWithDraft(edges);
        talk.ping();
        Other.feed(talk, Other.last(Other.BYTES, edges));
        for (int i = 0; i < edges.length; i++) {
            CHECK.same("byte " + edges[i] + " in OUT", edges[i], talk.outAt(2 + i));
            CHECK.same("byte " + edges[i] + " in a message", edges[i], talk.byteAt(0, i));
        }
    }

    // The talk has a STATE: 0 ASKED (at first), 1 OPEN, 2 CLOSING, 3 CLOSED.
    private static void states() {
        Talk talk = new Talk();
        CHECK.same("at first", 0, talk.state());
        Other.feed(talk, Other.codes(Other.request(Other.GOOD)));
        CHECK.same("open", 1, talk.state());
        talk.close(1000);
        CHECK.same("closing", 2, talk.state());
        Other.feed(talk, Other.last(Other.CLOSE));
        CHECK.same("closed", 3, talk.state());
    }

    // What this end says is put behind the OUT, a row of bytes, at first none.
    private static void outAtFirst() {
        Talk talk = new Talk();
        CHECK.same("at first", 0, talk.outLength());
        CHECK.failsIdly("no byte 0", IndexOutOfBoundsException.class, talk, () -> talk.outAt(0));
        Talk open = Other.asked(Other.request(Other.GOOD));
        int[] before = Seen.out(open);
        open.ping();
        CHECK.same("behind it", Other.joined(before, Other.row(137, 0)), Seen.out(open));
    }

    // There is a DRAFT of at most 100 bytes, at first none.
    private static void draft() {
        Talk talk = Other.open();
        CHECK.same("at first", Other.row(), Seen.draft(talk));
        Other.write(talk, Other.many(99, 'd'));
        CHECK.same("the 100th", true, talk.write('e', 1));
        CHECK.same("the 101st", false, talk.write('f', 1));
        CHECK.same("100 bytes", Other.joined(Other.many(99, 'd'), Other.row('e')), Seen.draft(talk));
    }

    // THE REQUEST, in state ASKED, is read up to its end, the first CR LF CR LF
    private static void firstEnd() {
        for (String begun : new String[] {"\r\n\r", "\r\n\n", "\r\n\n\r\n", "\r\n\r\r\n", "\n\r\n", "\r\r\n", "\r\n \r\n",
            "\n\n\n\n", "\r\r\r\r", "\r\n", "\r\n\rx\n"}) {
            REQUEST.notEnded(Arrays.toString(Other.codes(begun)), "x" + begun);
        }
        REQUEST.bad("nothing before its end", "\r\n\r\n");
        REQUEST.bad("an LF before its end", "\n\r\n\r\n");
        REQUEST.bad("an LF and CR LF before its end", "\n\r\nx\r\n\r\n");
        Talk talk = new Talk();
        int[] ping = Other.last(Other.PING);
        Other.feed(talk, Other.joined(Other.codes(Other.request(Other.GOOD)), ping));
        CHECK.same("what is behind it is a frame", 129 + 2, talk.outLength());
        Talk twice = Other.asked(Other.request(Other.GOOD) + "\r\n\r\n");
        CHECK.same("a second end is a wrong frame", 1002, twice.endCode());
    }

    // or up to its 400th byte if that comes first (it is BAD then).
    private static void the400thByte() {
        String fill = "v".repeat(400);
        String begun = String.join("\r\n", Other.GOOD) + "\r\nX: ";
        String of400 = (begun + fill).substring(0, 400);
        REQUEST.notEnded("the 399th byte", of400.substring(0, 399));
        REQUEST.bad("400 bytes without an end", of400);
        for (int missing = 1; missing <= 3; missing++) {
            String end = "\r\n\r\n".substring(0, 4 - missing);
            REQUEST.bad(missing + " bytes of the end are missing", of400.substring(0, 400 - end.length()) + end);
        }
        REQUEST.good("an end at the 399th byte", of400.substring(0, 395) + "\r\n\r\n");
        REQUEST.good("an end at the 400th byte, than which none comes first", of400.substring(0, 396) + "\r\n\r\n");
        Talk behind = Other.asked(of400.substring(0, 397) + "\r\n\r\n");
        CHECK.same("an end at the 401st byte", RequestCheck.BAD, Seen.outText(behind));
    }

    // It is cut at each CR LF into LINES.
    private static void lines() {
        REQUEST.good("a line more", Other.requestWith(1, "Host: a\r\nX: b"));
        REQUEST.bad("two lines in one", Other.requestWith(1, "Host: a, Upgrade: websocket").replace(
                "\r\nUpgrade: websocket", ""));
        REQUEST.bad("a line that goes on", Other.requestWith(1, "Host: a\r\n b"));
    }

    // It is BAD unless the first line is GET, a space, .., a space and HTTP/1.1
    private static void firstLine() {
        REQUEST.good("as it is due", Other.requestWith(0, "GET / HTTP/1.1"));
        for (String line : new String[] {"", "GE / HTTP/1.1", "GETS / HTTP/1.1", "Get / HTTP/1.1", "GET/ HTTP/1.1",
            "GET  / HTTP/1.1", "GET\t/ HTTP/1.1", " GET / HTTP/1.1", "GET /HTTP/1.1", "GET /  HTTP/1.1",
            "GET /\tHTTP/1.1", "GET / HTTP/1.", "GET / HTTP/1.12", "GET / HTTP/1.1 ", "GET / HTTP/1.0", "GET / HTTP/2.1",
            "GET / Http/1.1", "GET / HTTP/1.1\r", "GET /"}) {
            REQUEST.bad("first line " + line, Other.requestWith(0, line));
        }
        REQUEST.bad("it comes second", Other.request(Other.GOOD[1], Other.GOOD[0], Other.GOOD[2], Other.GOOD[3],
                Other.GOOD[4], Other.GOOD[5]));
    }

    // one or more characters 33 .. 126
    private static void targetOfOneOrMore() {
        REQUEST.bad("none", Other.requestWith(0, "GET  HTTP/1.1"));
        REQUEST.bad("none and one space", Other.requestWith(0, "GET HTTP/1.1"));
        REQUEST.good("two", Other.requestWith(0, "GET ab HTTP/1.1"));
        for (int c : new int[] {0, 9, 31, 32, 33, 126, 127, 128, 161, 255}) {
            boolean may = c == 33 || c == 126;
            REQUEST.isGood(may, "only " + c, Other.requestWith(0, "GET " + (char) c + " HTTP/1.1"));
            REQUEST.isGood(may, c + " first", Other.requestWith(0, "GET " + (char) c + "/ HTTP/1.1"));
            REQUEST.isGood(may, c + " last", Other.requestWith(0, "GET /" + (char) c + " HTTP/1.1"));
        }
    }

    // every other line is a NAME, .. letters, digits and -
    private static void names() {
        for (char c : "AZaz09-".toCharArray()) {
            REQUEST.good("name " + c, Other.requestAnd(c + ":"));
            REQUEST.good("name with " + c, Other.requestAnd("x" + c + "y:"));
        }
        for (char c : "@[`{/;,.+_ \t\0\u007f\u0080\u00e1\u00ff".toCharArray()) {
            REQUEST.bad("name " + (int) c, Other.requestAnd(c + ":"));
            REQUEST.bad("name with " + (int) c, Other.requestAnd("x" + c + "y:"));
            REQUEST.bad("name that ends with " + (int) c, Other.requestAnd("x" + c + ":"));
        }
    }

    // one or more
    private static void nameOfOneOrMore() {
        REQUEST.bad("no sign", Other.requestAnd(":"));
        REQUEST.bad("no sign but a value", Other.requestAnd(":a"));
        REQUEST.good("one sign", Other.requestAnd("x:a"));
        REQUEST.good("many signs", Other.requestAnd("x".repeat(100) + ":a"));
    }

    // a colon
    private static void colon() {
        REQUEST.bad("no colon", Other.requestAnd("x"));
        REQUEST.bad("no colon but a space", Other.requestAnd("x a"));
        REQUEST.bad("no colon in a line before", Other.requestWith(1, "x\r\nHost: a"));
        REQUEST.good("two colons", Other.requestAnd("x::"));
        REQUEST.bad("the colon first", Other.requestAnd(":x"));
        REQUEST.bad("a space before it", Other.requestAnd("x :"));
    }

    // a VALUE of characters 32 .. 126 and 9
    private static void valueSigns() {
        for (int c : new int[] {9, 32, 33, 126}) {
            REQUEST.good("value with " + c, Other.requestAnd("x: a" + (char) c + "b"));
            REQUEST.good("value " + c, Other.requestAnd("x:" + (char) c));
            REQUEST.good("host with " + c, Other.requestWith(1, "Host: a" + (char) c + "b"));
        }
        for (int c : new int[] {0, 8, 10, 11, 13, 31, 127, 128, 160, 255}) {
            REQUEST.bad("value with " + c, Other.requestAnd("x: a" + (char) c + "b"));
            REQUEST.bad("value " + c, Other.requestAnd("x:" + (char) c));
            REQUEST.bad("host with " + c, Other.requestWith(1, "Host: a" + (char) c + "b"));
        }
    }

    // (perhaps none)
    private static void emptyValue() {
        REQUEST.good("no value", Other.requestAnd("x:"));
        REQUEST.good("no value in a line before", Other.requestWith(1, "x:\r\nHost: a"));
    }

    // of which spaces and 9s at both ends do not count
    private static void blanksOfValues() {
        for (String blanks : new String[] {"", " ", "\t", " \t \t "}) {
            for (int i = 1; i < Other.GOOD.length; i++) {
                String name = Other.GOOD[i].substring(0, Other.GOOD[i].indexOf(':') + 1);
                String value = Other.GOOD[i].substring(name.length() + 1);
                REQUEST.good("before " + value, Other.requestWith(i, name + blanks + value));
                REQUEST.good("behind " + value, Other.requestWith(i, name + value + blanks));
                REQUEST.good("round " + value, Other.requestWith(i, name + blanks + value + blanks));
            }
        }
        REQUEST.otherVersion("in its midst they do", Other.requestWith(5, "Sec-WebSocket-Version: 1 3"));
    }

    // (and there is no single CR or LF)
    private static void singleCrOrLf() {
        for (String single : new String[] {"\r", "\n", "\r\r", "\n\n", "\n\r"}) {
            String what = Arrays.toString(Other.codes(single));
            REQUEST.bad(what + " before the first line", single + Other.request(Other.GOOD));
            REQUEST.bad(what + " in the first line", Other.requestWith(0, "GET /" + single + " HTTP/1.1"));
            REQUEST.bad(what + " in a name", Other.requestAnd("x" + single + "y: a"));
            REQUEST.bad(what + " before a name", Other.requestAnd(single + "x: a"));
            REQUEST.bad(what + " in a value", Other.requestAnd("x: a" + single + "b"));
            REQUEST.bad(what + " before a value", Other.requestAnd("x:" + single + "b"));
            REQUEST.bad(what + " before the end", String.join("\r\n", Other.GOOD) + single + "\r\n\r\n");
            REQUEST.bad(what + " between lines", String.join("\r\n", Other.GOOD).replace("\r\nUpgrade", single + "Upgrade")
                    + "\r\n\r\n");
        }
    }

    // capitals and small letters counting the same in names
    private static void lettersOfNames() {
        for (int i = 1; i < Other.GOOD.length; i++) {
            String name = Other.GOOD[i].substring(0, Other.GOOD[i].indexOf(':'));
            String rest = Other.GOOD[i].substring(name.length());
            String small = name.toLowerCase();
            String capital = name.toUpperCase();
            REQUEST.good(small, Other.requestWith(i, small + rest));
            REQUEST.good(capital, Other.requestWith(i, capital + rest));
            for (int at = 0; at < name.length(); at++) {
                REQUEST.good(name + ", letter " + at, Other.requestWith(i,
                        small.substring(0, at) + capital.charAt(at) + small.substring(at + 1) + rest));
            }
            REQUEST.bad("two of " + name, Other.requestWith(i, small + rest + "\r\n" + capital + rest));
        }
    }

    // there is just one line each with the names host, upgrade, connection, sec-websocket-key and sec-websocket-version
    private static void justOneLineEach() {
        for (int i = 1; i < Other.GOOD.length; i++) {
            String name = Other.GOOD[i].substring(0, Other.GOOD[i].indexOf(':'));
            REQUEST.bad("none of " + name, Other.requestWith(i, null));
            REQUEST.bad("two of " + name, Other.requestAnd(Other.GOOD[i]));
            REQUEST.bad("three of " + name, Other.requestAnd(Other.GOOD[i] + "\r\n" + Other.GOOD[i]));
            REQUEST.bad("a second one of " + name + " that is empty", Other.requestAnd(name + ":"));
        }
        REQUEST.bad("none of all", Other.request(Other.GOOD[0]));
    }

    // (others are for nothing)
    private static void otherNames() {
        for (int i = 1; i < Other.GOOD.length; i++) {
            String name = Other.GOOD[i].substring(0, Other.GOOD[i].indexOf(':'));
            String rest = Other.GOOD[i].substring(name.length());
            for (String other : new String[] {name + "-", "-" + name, name.substring(1), "X" + name.substring(1),
                name.substring(0, name.length() - 1), name.substring(0, name.length() - 1) + "X"}) {
                REQUEST.good("also " + other, Other.requestAnd(other + rest));
                REQUEST.bad("only " + other, Other.requestWith(i, other + rest));
            }
        }
        REQUEST.good("two of another name", Other.requestAnd("Origin: a\r\nOrigin: a"));
    }

    // the value of host is not empty
    private static void hostIsNotEmpty() {
        REQUEST.bad("empty", Other.requestWith(1, "Host:"));
        REQUEST.bad("a space", Other.requestWith(1, "Host: "));
        REQUEST.bad("spaces and 9s", Other.requestWith(1, "Host:\t  \t"));
        REQUEST.good("one sign", Other.requestWith(1, "Host:a"));
    }

    // among the WORDS of upgrade is websocket .. (in capitals or small letters)
    private static void upgradeWords() {
        for (String value : new String[] {"websocket", "WEBSOCKET", "WebSocket", "h2c, websocket", "websocket, h2c"}) {
            REQUEST.good("upgrade " + value, Other.requestWith(2, "Upgrade: " + value));
        }
        for (String value : new String[] {"", "websocke", "websockets", "upgrade", "web-socket", "h2c", "websocket1",
            "Xebsocket", "websockeX"}) {
            REQUEST.bad("upgrade " + value, Other.requestWith(2, "Upgrade: " + value));
        }
    }

    // among those of connection upgrade (in capitals or small letters)
    private static void connectionWords() {
        for (String value : new String[] {"upgrade", "UPGRADE", "Upgrade", "keep-alive, Upgrade", "upgrade, close"}) {
            REQUEST.good("connection " + value, Other.requestWith(3, "Connection: " + value));
        }
        for (String value : new String[] {"", "upgrad", "upgrades", "websocket", "keep-alive", "up-grade", "Xpgrade",
            "upgradX"}) {
            REQUEST.bad("connection " + value, Other.requestWith(3, "Connection: " + value));
        }
    }

    // that of sec-websocket-key, the KEY, is 22 BASE64 signs and ==
    private static void keyOf22Signs() {
        String signs = Other.KEY.substring(0, 22);
        REQUEST.goodWithKey("22 signs", signs + "==");
        for (String key : new String[] {"", "==", signs.substring(1) + "==", "A" + signs + "==", signs, signs + "=",
            signs + "===", signs + "=A", signs + "A=", signs + "AA", signs + " ==", signs + "= =", signs + "==,",
            "=".repeat(24), signs.substring(0, 21) + "===", signs.substring(0, 11) + "==" + signs.substring(11)}) {
            REQUEST.bad("key " + key, Other.requestWith(4, "Sec-WebSocket-Key: " + key));
        }
    }

    // of which the last sign before == is one of A Q g w
    private static void lastSignOfKey() {
        for (char c : "AQgw".toCharArray()) {
            REQUEST.goodWithKey("last sign " + c, KEY_FRONT + c + "==");
        }
        for (char c : "BPRZafhvxz09+/=@ qGW".toCharArray()) {
            REQUEST.bad("last sign " + c, Other.requestWith(4, "Sec-WebSocket-Key: " + KEY_FRONT + c + "=="));
        }
    }

    // Words are the pieces of a value between commas, spaces and 9s at both ends not counting.
    private static void piecesBetweenCommas() {
        for (String value : new String[] {",websocket", "websocket,", ",,websocket,,", "a,websocket,b", " , websocket , ",
            "a,\t websocket\t ,b", "a b,websocket", "\twebsocket\t"}) {
            REQUEST.good("word in " + value, Other.requestWith(2, "Upgrade:" + value));
        }
        for (String value : new String[] {",", ",,", "a websocket", "websocket a", "websocket;", "web,socket",
            "a\twebsocket", "websocket\ta,b", "web socket", "'websocket'", "websocketwebsocket"}) {
            REQUEST.bad("no word in " + value, Other.requestWith(2, "Upgrade:" + value));
            REQUEST.bad("nor in " + value, Other.requestWith(3, "Connection:" + value.replace("websocket", "upgrade")));
        }
    }

    // BASE64 signs are A .. Z, a .. z, 0 .. 9, + and / for the numbers 0 .. 63.
    private static void base64Signs() {
        for (char c : "AZaz09+/".toCharArray()) {
            for (int at : new int[] {0, 10, 20}) {
                REQUEST.goodWithKey(c + " at " + at, Other.KEY.substring(0, at) + c + Other.KEY.substring(at + 1));
            }
        }
        for (char c : "@[`{.:,*-_=! \t".toCharArray()) {
            for (int at : new int[] {1, 10, 20}) {
                REQUEST.bad(c + " at " + at, Other.requestWith(4, "Sec-WebSocket-Key: " + Other.KEY.substring(0, at) + c
                        + Other.KEY.substring(at + 1)));
            }
        }
        StringBuilder proofs = new StringBuilder();
        for (int i = 0; i < 40; i++) {
            String key = String.format("%021d", i * 7919) + "A==";
            REQUEST.goodWithKey(key, key);
            proofs.append(Seen.outText(Other.asked(Other.requestWith(4, "Sec-WebSocket-Key: " + key))).substring(97, 125));
        }
        for (char c : "ABCDEFGHIJKLMNOPQRSTUVWXYZabcdefghijklmnopqrstuvwxyz0123456789+/".toCharArray()) {
            CHECK.same("some proof has a " + c, true, proofs.indexOf(String.valueOf(c)) >= 0);
        }
    }

    // two bytes at the end are three signs (the last has two bits 0 below) and =
    private static void twoBytesAtTheEnd() {
        String answer = Seen.outText(Other.asked(Other.request(Other.GOOD)));
        String proof = answer.substring(answer.indexOf("Accept: ") + 8, answer.length() - 4);
        CHECK.same("28 signs", 28, proof.length());
        CHECK.same("the last is =", "=", proof.substring(27));
        CHECK.same("and only the last", 27, proof.indexOf('='));
        CHECK.same("the digest ends with the bytes 196, 234", "xOo", proof.substring(24, 27));
    }

    // If it is bad, OUT gets HTTP/1.1 400 Bad Request CR LF CR LF, and the state is CLOSED.
    private static void badRequest() {
        REQUEST.bad("bad", "x\r\n\r\n");
        REQUEST.bad("bad and another version",
                Other.requestWith(5, "Sec-WebSocket-Version: 12").replace("Host: a", "Host:"));
        Talk talk = Other.asked("x\r\n\r\n");
        CHECK.failsIdly("it is closed", IllegalStateException.class, talk, () -> talk.feed(0, 1));
    }

    // Else, if the value of sec-websocket-version is not 13, OUT gets HTTP/1.1 426 .., and the state is CLOSED.
    private static void otherVersion() {
        for (String value : new String[] {"", "1", "3", "12", "14", "013", "130", "113", "13,13", "13;", "0", "-13", "31"}) {
            REQUEST.otherVersion("version " + value, Other.requestWith(5, "Sec-WebSocket-Version: " + value));
        }
        Talk talk = Other.asked(Other.requestWith(5, "Sec-WebSocket-Version: 8"));
        CHECK.failsIdly("it is closed", IllegalStateException.class, talk, () -> talk.feed(0, 1));
    }

    // Else OUT gets HTTP/1.1 101 .., and the state is OPEN.
    private static void goodRequest() {
        REQUEST.good("good", Other.request(Other.GOOD));
        Talk talk = Other.asked(Other.request(Other.GOOD));
        CHECK.same("129 bytes", 129, talk.outLength());
        talk.ping();
        CHECK.same("it is open", 131, talk.outLength());
    }

    // PROOF: the DIGEST of the 24 signs of the key and 258EAFA5-E914-47DA-95CA-C5AB0DC85B11 behind them
    private static void proof() {
        REQUEST.goodWithProof("a known one", Other.request(Other.GOOD), "s3pPLMBiTxaQ9kYGzzhZRbK+xOo=");
        REQUEST.goodWithProof("of the 24 signs alone", Other.requestWith(4, "Sec-WebSocket-Key:\t" + Other.KEY + "  \t"),
                "s3pPLMBiTxaQ9kYGzzhZRbK+xOo=");
    }

    // THE DIGEST of these 60 bytes .. All is done with ints that wrap
    private static void digest() {
        for (char c : "AZaz09+/".toCharArray()) {
            for (char last : "AQgw".toCharArray()) {
                String key = String.valueOf(c).repeat(21) + last + "==";
                REQUEST.goodWithKey(key, key);
            }
        }
    }
}

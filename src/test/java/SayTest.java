/** Promises 15 to 19: the draft, and what this end says of its own accord. */
final class SayTest {
    private static final Check CHECK = new Check("SayTest");

    public static void main(String[] args) {
        write();
        writeUpTo100();
        clear();
        sendInOneFrame();
        sendInPieces();
        sendArguments();
        sendUpTo400();
        ping();
        pingUpTo400();
        close();
        closeArguments();
        closeHoweverFull();
        notOpen();
        CHECK.end();
    }

    private static int[] draftOf(Talk talk) {
        talk.drop(talk.outLength());
        talk.ping();
        int[] out = Seen.out(talk);
        talk.drop(out.length);
        return java.util.Arrays.copyOfRange(out, 2, out.length);
    }

    private static void write() {
        Talk talk = Other.open();
        CHECK.same("no draft", Other.row(), draftOf(talk));
        CHECK.same("write", true, talk.write(0x8877665544332211L, 8));
        CHECK.same("draft", Other.row(0x11, 0x22, 0x33, 0x44, 0x55, 0x66, 0x77, 0x88), draftOf(talk));
        CHECK.same("write", true, talk.write(0xFFFFFFFFFFFF00FFL, 2));
        CHECK.same("draft", Other.row(0x11, 0x22, 0x33, 0x44, 0x55, 0x66, 0x77, 0x88, 0xFF, 0), draftOf(talk));
        for (int n : new int[] {0, -1, 9, 10, Integer.MIN_VALUE, Integer.MAX_VALUE}) {
            CHECK.same("write n " + n, false, talk.write(1, n));
        }
        CHECK.same("refused ones change nothing", 10, draftOf(talk).length);
        for (int n = 1; n <= 8; n++) {
            talk.clear();
            CHECK.same("write n " + n, true, talk.write(0x0807060504030201L, n));
            int[] due = new int[n];
            for (int i = 0; i < n; i++) {
                due[i] = i + 1;
            }
            CHECK.same("draft of " + n, due, draftOf(talk));
        }
    }

    private static void writeUpTo100() {
        for (int n = 1; n <= 8; n++) {
            for (int over = 0; over <= n; over++) {
                Talk talk = Other.openWithDraft(Other.many(100 - n + over, 'd'));
                CHECK.same("write " + n + " over " + over, over == 0, talk.write(0, n));
                int[] due = over == 0 ? Other.joined(Other.many(100 - n, 'd'), Other.many(n, 0))
                        : Other.many(100 - n + over, 'd');
                CHECK.same("draft", due, draftOf(talk));
            }
        }
        Talk asked = new Talk();
        CHECK.same("write when asked", true, asked.write('x', 1));
        Other.feed(asked, Other.codes(Other.request(Other.GOOD)));
        CHECK.same("it stays", Other.row('x'), draftOf(asked));
        Other.feed(asked, 0);
        CHECK.same("write when closed", true, asked.write('x', 1));
        asked.clear();
    }

    private static void clear() {
        Talk talk = Other.openWithDraft(Other.many(100, 1));
        talk.ping();
        String before = Seen.all(talk);
        talk.clear();
        CHECK.same("clear changes nothing else", before, Seen.all(talk));
        CHECK.same("no draft", Other.row(), draftOf(talk));
        talk.clear();
        CHECK.same("no draft", Other.row(), draftOf(talk));
        CHECK.same("write again", true, talk.write(5, 1));
        CHECK.same("draft", Other.row(5), draftOf(talk));
    }

    private static void sendInOneFrame() {
        Talk talk = Other.openWithDraft('h', 'i');
        CHECK.same("send", 1, talk.send(1, 0));
        CHECK.same("out", Other.row(129, 2, 'h', 'i'), Seen.out(talk));
        CHECK.same("the draft stays", 1, talk.send(2, 2));
        CHECK.same("out", Other.row(129, 2, 'h', 'i', 130, 2, 'h', 'i'), Seen.out(talk));
        for (int size : new int[] {0, 1, 100}) {
            Talk empty = Other.open();
            CHECK.same("an empty draft", 1, empty.send(1, size));
            CHECK.same("out", Other.row(129, 0), Seen.out(empty));
        }
        Talk full = Other.openWithDraft(Other.many(100, 'x'));
        CHECK.same("100 bytes", 1, full.send(1, 100));
        CHECK.same("out", Other.joined(Other.row(129, 100), Other.many(100, 'x')), Seen.out(full));
        CHECK.same("the talk stays as it is", 1, full.state());
        CHECK.same("nothing is delivered", 0, full.delivered());
    }

    private static void sendInPieces() {
        int[] draft = new int[100];
        for (int i = 0; i < 100; i++) {
            draft[i] = 255 - i;
        }
        for (int n = 0; n <= 100; n++) {
            int[] here = java.util.Arrays.copyOf(draft, n);
            for (int size = 1; size <= 100; size++) {
                if (n > 60 && size % 7 != 0 && size != n && size != n - 1) {
                    continue;
                }
                Talk talk = Other.openWithDraft(here);
                int frames = Math.max(1, (int) Math.ceil(n / (double) size));
                CHECK.same("send " + n + " by " + size, frames, talk.send(2, size));
                CHECK.same("send " + n + " by " + size, cut(here, size), Seen.out(talk));
            }
        }
        Talk text = Other.openWithDraft(Other.text("a\u00e9\u20acb"));
        CHECK.same("characters may be cut", 7, text.send(1, 1));
        CHECK.same("out", Other.row(1, 1, 'a', 0, 1, 0xC3, 0, 1, 0xA9, 0, 1, 0xE2, 0, 1, 0x82, 0, 1, 0xAC, 128, 1, 'b'),
                Seen.out(text));
    }

    private static int[] cut(int[] draft, int size) {
        java.util.List<Integer> out = new java.util.ArrayList<>();
        int at = 0;
        do {
            int here = Math.min(size, draft.length - at);
            boolean last = at + here == draft.length;
            out.add((at == 0 ? 2 : 0) | (last ? 128 : 0));
            out.add(here);
            for (int i = 0; i < here; i++) {
                out.add(draft[at + i]);
            }
            at += here;
        } while (at < draft.length);
        return out.stream().mapToInt(Integer::intValue).toArray();
    }

    private static void sendArguments() {
        Talk[] talks = {new Talk(), Other.open(), Other.open(), Other.asked("\r\n\r\n"), Other.open()};
        talks[2].close(1000);
        Other.fillOut(talks[4], 400);
        for (Talk talk : talks) {
            for (int kind : new int[] {0, 3, -1, 8, 9, 129, Integer.MIN_VALUE, Integer.MAX_VALUE}) {
                CHECK.failsIdly("send kind " + kind, IllegalArgumentException.class, talk, () -> talk.send(kind, 0));
            }
            for (int size : new int[] {-1, 101, Integer.MIN_VALUE, Integer.MAX_VALUE}) {
                CHECK.failsIdly("send 1 by " + size, IllegalArgumentException.class, talk, () -> talk.send(1, size));
                CHECK.failsIdly("send 2 by " + size, IllegalArgumentException.class, talk, () -> talk.send(2, size));
            }
            Other.write(talk, 0xE2, 0x82);
            CHECK.failsIdly("send no text", IllegalArgumentException.class, talk, () -> talk.send(1, 0));
        }
        CHECK.same("as BYTES it is fine", 2, talks[1].send(2, 1));
        Other.write(talks[1], 0xAC);
        CHECK.same("and as TEXT when it is whole", 1, talks[1].send(1, 0));
    }

    private static void sendUpTo400() {
        for (int size : new int[] {0, 1, 3, 7, 10}) {
            int frames = size == 0 ? 1 : (10 + size - 1) / size;
            for (int over = -1; over <= 2; over++) {
                Talk talk = Other.open();
                int before = 400 - (10 + 2 * frames) + over;
                Other.fillOut(talk, before);
                Other.write(talk, Other.many(10, 'x'));
                if (over <= 0) {
                    CHECK.same("send by " + size, frames, talk.send(1, size));
                    CHECK.same("out", 400 + over, talk.outLength());
                } else {
                    CHECK.failsIdly("send by " + size, IllegalStateException.class, talk, () -> talk.send(1, size));
                }
            }
        }
        Talk empty = Other.open();
        Other.fillOut(empty, 398);
        CHECK.same("an empty one", 1, empty.send(1, 5));
        CHECK.failsIdly("no more", IllegalStateException.class, empty, () -> empty.send(1, 5));
        empty.drop(2);
        CHECK.same("when dropped", 1, empty.send(2, 5));
    }

    private static void ping() {
        Talk talk = Other.open();
        talk.ping();
        CHECK.same("out", Other.row(137, 0), Seen.out(talk));
        Other.write(talk, 0xFF, 0);
        talk.ping();
        CHECK.same("any bytes", Other.row(137, 0, 137, 2, 0xFF, 0), Seen.out(talk));
        talk.ping();
        CHECK.same("the draft stays", 10, talk.outLength());
        CHECK.same("the state, too", 1, talk.state());
        CHECK.same("it is no pong", 0, talk.pongs());
        Talk full = Other.openWithDraft(Other.many(100, 1));
        full.ping();
        CHECK.same("100 bytes", Other.joined(Other.row(137, 100), Other.many(100, 1)), Seen.out(full));
    }

    private static void pingUpTo400() {
        for (int size : new int[] {0, 1, 99, 100}) {
            for (int over = -1; over <= 2; over++) {
                Talk talk = Other.open();
                int before = 398 - size + over;
                Other.fillOut(talk, before);
                Other.write(talk, Other.many(size, 'x'));
                if (over <= 0) {
                    talk.ping();
                    CHECK.same("ping " + size, before + 2 + size, talk.outLength());
                } else {
                    CHECK.failsIdly("ping " + size, IllegalStateException.class, talk, talk::ping);
                }
            }
        }
    }

    private static void close() {
        Talk talk = Other.open();
        talk.close(1000);
        CHECK.same("close", "state 2, end 0, delivered 0, pongs 0, out 136 2 3 232 ", Seen.all(talk));
        Talk reason = Other.openWithDraft(Other.text("b\u00e9"));
        reason.close(4999);
        CHECK.same("with a reason", Other.row(136, 5, 19, 135, 'b', 0xC3, 0xA9), Seen.out(reason));
        CHECK.same("closing", 2, reason.state());
        for (int code = -10; code < 70000; code++) {
            boolean may = code >= 1000 && code <= 1011 && (code < 1004 || code > 1006) || code >= 3000 && code < 5000;
            if (may || code < 1100 || code % 997 == 0 || code > 2990 && code < 5010) {
                closeWith(code, may);
            }
        }
    }

    private static void closeWith(int code, boolean may) {
        Talk talk = Other.open();
        if (may) {
            talk.close(code);
            CHECK.same("close " + code, Other.row(136, 2, code >> 8, code & 255), Seen.out(talk));
        } else {
            CHECK.failsIdly("close " + code, IllegalArgumentException.class, talk, () -> talk.close(code));
        }
    }

    private static void closeArguments() {
        Talk closing = Other.open();
        closing.close(1000);
        Talk[] talks = {new Talk(), Other.open(), closing, Other.asked("\r\n\r\n")};
        for (Talk talk : talks) {
            for (int code : new int[] {0, -1, 999, 1004, 1005, 1006, 1012, 2999, 5000, 65536 + 1000,
                Integer.MIN_VALUE, Integer.MAX_VALUE}) {
                CHECK.failsIdly("close " + code, IllegalArgumentException.class, talk, () -> talk.close(code));
            }
            Other.write(talk, 'a', 0xF0, 0x9F);
            CHECK.failsIdly("close with no text", IllegalArgumentException.class, talk, () -> talk.close(1000));
        }
        Other.write(talks[1], 0x98, 0x80);
        talks[1].close(1001);
        CHECK.same("with a whole text", Other.row(136, 7, 3, 233, 'a', 0xF0, 0x9F, 0x98, 0x80), Seen.out(talks[1]));
    }

    private static void closeHoweverFull() {
        Talk talk = Other.open();
        Other.fillOut(talk, 400);
        Other.feed(talk, Other.last(9, Other.many(68, 'p')));
        CHECK.same("OUT is full", 470, talk.outLength());
        Other.write(talk, Other.many(100, 'r'));
        int[] before = Seen.out(talk);
        talk.close(3999);
        CHECK.same("close", Other.joined(before, Other.row(136, 102, 15, 159), Other.many(100, 'r')), Seen.out(talk));
        Other.feed(talk, Other.last(9, 1));
        Other.feed(talk, Other.last(8, 3, 232));
        CHECK.same("nothing behind it", 574, talk.outLength());
        CHECK.same("all can be dropped", true, talk.drop(574));
    }

    private static void notOpen() {
        Talk closing = Other.open();
        closing.close(1000);
        Talk over = Other.open();
        Other.feed(over, Other.last(8));
        for (Talk talk : new Talk[] {new Talk(), closing, over, Other.asked("\r\n\r\n")}) {
            CHECK.failsIdly("send 1", IllegalStateException.class, talk, () -> talk.send(1, 0));
            CHECK.failsIdly("send 2", IllegalStateException.class, talk, () -> talk.send(2, 100));
            CHECK.failsIdly("ping", IllegalStateException.class, talk, talk::ping);
            CHECK.failsIdly("close", IllegalStateException.class, talk, () -> talk.close(1000));
        }
    }
}

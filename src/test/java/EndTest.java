/** Promises 2, 3, 4: a CLOSE that comes in, its answer and the end code; PINGs and their PONGs. */
final class EndTest {
    private static final Check CHECK = new Check("EndTest");

    public static void main(String[] args) {
        everyCode();
        contents();
        atItsLastByte();
        closing();
        pings();
        pongsUpTo470();
        CHECK.end();
    }

    private static boolean may(int code) {
        switch (code) {
            case 1000: case 1001: case 1002: case 1003:
            case 1007: case 1008: case 1009: case 1010: case 1011:
                return true;
            default:
                return code / 1000 == 3 || code / 1000 == 4;
        }
    }

    private static void everyCode() {
        for (int code = 0; code < 65536; code += code < 5300 ? 1 : 41) {
            Talk talk = Other.open();
            Other.feed(talk, Other.last(8, code >> 8, code & 255));
            int due = may(code) ? code : 1002;
            CHECK.same("CLOSE " + code + ": state", 3, talk.state());
            CHECK.same("CLOSE " + code + ": end code", due, talk.endCode());
            CHECK.same("CLOSE " + code + ": out", Other.row(136, 2, due >> 8, due & 255), Seen.out(talk));
        }
    }

    private static void contents() {
        ends("no content", 1005, Other.row(136, 0));
        ends("one byte", 1002, Other.row(136, 2, 3, 234), 3);
        ends("one byte 0", 1002, Other.row(136, 2, 3, 234), 0);
        ends("code and reason", 1001, Other.row(136, 2, 3, 233), 3, 233, 'b', 'y', 'e');
        ends("code and no text", 1007, Other.row(136, 2, 3, 239), 3, 232, 'b', 0xFF);
        ends("code and a text that is not whole", 1007, Other.row(136, 2, 3, 239), 3, 232, 0xE2, 0x82);
        ends("wrong code and no text", 1002, Other.row(136, 2, 3, 234), 3, 237, 0xFF);
        ends("125 bytes", 4999, Other.row(136, 2, 19, 135),
                Other.joined(Other.row(19, 135), Other.many(123, 'z')));
    }

    private static void ends(String what, int code, int[] out, int... content) {
        Talk talk = Other.open();
        CHECK.same(what + ": delivers", 0, Other.feed(talk, Other.last(8, content)));
        CHECK.same(what + ": state", 3, talk.state());
        CHECK.same(what + ": end code", code, talk.endCode());
        CHECK.same(what + ": out", out, Seen.out(talk));
    }

    private static void atItsLastByte() {
        int[][] contents = {{}, {9}, {3, 232}, {0, 0}, {3, 232, 0xFF, 'a'}, {3, 232, 'a', 'b'}, {0, 0, 'a'}};
        for (int[] content : contents) {
            Talk talk = Other.open();
            int[] bytes = Other.last(8, content);
            for (int i = 0; i < bytes.length; i++) {
                CHECK.same("before byte " + i, "state 1, end 0, delivered 0, pongs 0, out ", Seen.all(talk));
                talk.feed(bytes[i], 1);
            }
            CHECK.same("at the last byte", 3, talk.state());
        }
        Talk under = Other.open();
        Other.feed(under, Other.joined(Other.notLast(1, 0xE2), Other.last(8, 3, 232, 0xC3, 0xA9)));
        CHECK.same("its text is none of the message's", 1000, under.endCode());
    }

    private static void closing() {
        int[][] contents = {{}, {3, 233}, {3, 232, 'o', 'k'}, {7}, {0, 1}, {3, 232, 0x80}};
        int[] codes = {1005, 1001, 1000, 1002, 1002, 1007};
        for (int i = 0; i < codes.length; i++) {
            Talk talk = Other.open();
            talk.close(4000);
            CHECK.same("no end code yet", 0, talk.endCode());
            CHECK.same("closing", 2, talk.state());
            Other.feed(talk, Other.joined(Other.last(1, 'm'), Other.last(9, 1), Other.last(8, contents[i])));
            CHECK.same("closed", 3, talk.state());
            CHECK.same("end code", codes[i], talk.endCode());
            CHECK.same("nothing is said when closing", Other.row(136, 2, 15, 160), Seen.out(talk));
            CHECK.same("messages come when closing", 1, talk.messages());
        }
    }

    private static void pings() {
        Talk talk = Other.open();
        Other.feed(talk, Other.joined(Other.last(9), Other.last(9, 255, 0, 128)));
        CHECK.same("pongs", Other.row(138, 0, 138, 3, 255, 0, 128), Seen.out(talk));
        CHECK.same("they are not counted", 0, talk.pongs());
        talk.drop(7);
        Other.feed(talk, Other.last(9, Other.many(125, 77)));
        CHECK.same("a long one", Other.joined(Other.row(138, 125), Other.many(125, 77)), Seen.out(talk));
        talk.drop(127);
        int[] ping = Other.last(9, 1);
        Other.feed(talk, ping[0], ping[1], ping[2], ping[3], ping[4], ping[5]);
        CHECK.same("not before it is whole", 0, talk.outLength());
        Other.feed(talk, ping[6]);
        CHECK.same("when it is whole", 3, talk.outLength());
    }

    private static void pongsUpTo470() {
        for (int size : new int[] {0, 1, 68, 69, 125}) {
            for (int over = -1; over <= 2; over++) {
                Talk talk = Other.open();
                int before = 470 - 2 - size + over;
                Other.fillOutByPongs(talk, before);
                CHECK.same("filled", before, talk.outLength());
                Other.feed(talk, Other.last(9, Other.many(size, 5)));
                int due = over <= 0 ? before + 2 + size : before;
                CHECK.same("pong of " + size + " over " + over, due, talk.outLength());
                CHECK.same("it goes on", 1, talk.state());
            }
        }
        Talk talk = Other.open();
        Other.fillOutByPongs(talk, 470);
        Other.feed(talk, Other.last(8, 3, 232));
        CHECK.same("the answer to a CLOSE is said however full OUT is", 474, talk.outLength());
        Talk wrong = Other.open();
        Other.fillOutByPongs(wrong, 470);
        Other.feed(wrong, 0);
        CHECK.same("and a CLOSE for a violation", 474, wrong.outLength());
        CHECK.same("its code", 234, wrong.outAt(473));
    }
}

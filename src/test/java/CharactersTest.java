import java.nio.ByteBuffer;
import java.nio.charset.CharacterCodingException;
import java.nio.charset.StandardCharsets;
import java.util.Random;

/** Promises 2, 17, 19: texts of characters, told by Java's own decoder; each wrong byte ends the talk at once. */
final class CharactersTest {
    private static final Check CHECK = new Check("CharactersTest");
    private static final int[][] ENDS = {
        {}, {0x80}, {0x90}, {0xA0}, {0x80, 0x80}, {0x90, 0x80}, {0xA0, 0x80},
        {0x80, 0x80, 0x80}, {0x90, 0x80, 0x80}, {0xA0, 0x80, 0x80},
    };

    public static void main(String[] args) {
        everyPair();
        edges();
        randomTexts();
        endInPieces();
        noCheckForBytes();
        CHECK.end();
    }

    /** The number of bytes of the row up to the one that can't stand there; -1 when all of them can. */
    private static int wrongAt(int[] row, int n) {
        for (int i = 1; i <= n; i++) {
            if (!mayBegin(row, i)) {
                return i;
            }
        }
        return -1;
    }

    /** Whether some text of characters begins so: it is one with one of the ends that a character may miss. */
    private static boolean mayBegin(int[] row, int n) {
        int[] begun = java.util.Arrays.copyOf(row, n);
        for (int[] end : ENDS) {
            if (isText(Other.joined(begun, end))) {
                return true;
            }
        }
        return false;
    }

    private static boolean isText(int[] row) {
        try {
            StandardCharsets.UTF_8.newDecoder().decode(buffer(row));
            return true;
        } catch (CharacterCodingException e) {
            return false;
        }
    }

    private static ByteBuffer buffer(int[] row) {
        ByteBuffer bytes = ByteBuffer.allocate(row.length);
        for (int b : row) {
            bytes.put((byte) b);
        }
        return bytes.flip();
    }

    /** As a TEXT in one frame, as one in frames of a byte, as a draft, and as the reason of a CLOSE. */
    private static void check(int... row) {
        String what = java.util.Arrays.toString(row);
        int wrong = wrongAt(row, row.length);
        boolean isText = isText(row);
        CHECK.same(what + " is one way or the other", true, wrong < 0 || !isText);

        Talk whole = Other.open();
        feedByBytes(what, whole, Other.last(1, row), wrong < 0 ? (isText ? -1 : 6 + row.length) : 6 + wrong);
        Talk cut = Other.open();
        int[][] frames = new int[row.length + 1][];
        for (int i = 0; i < row.length; i++) {
            frames[i] = Other.notLast(i == 0 ? 1 : 0, row[i]);
        }
        frames[row.length] = Other.last(row.length == 0 ? 1 : 0);
        feedByBytes(what + " cut", cut, Other.joined(frames),
                wrong < 0 ? (isText ? -1 : 7 * row.length + 6) : 7 * wrong);

        Talk reason = Other.open();
        Other.feed(reason, Other.last(8, Other.joined(Other.row(3, 232), row)));
        CHECK.same(what + " as a reason", isText ? 1000 : 1007, reason.endCode());

        Talk draft = Other.openWithDraft(row);
        if (isText) {
            CHECK.same(what + " as a draft", 1, draft.send(1, 0));
            draft.close(1000);
            CHECK.same(what + " in a close", 2, draft.state());
        } else {
            CHECK.failsIdly(what + " as a draft", IllegalArgumentException.class, draft, () -> draft.send(1, 0));
            CHECK.failsIdly(what + " in a close", IllegalArgumentException.class, draft, () -> draft.close(1000));
            CHECK.same(what + " as BYTES", 1, draft.send(2, 0));
        }
    }

    private static void feedByBytes(String what, Talk talk, int[] bytes, int endsAt) {
        int fed = 0;
        while (fed < bytes.length && talk.state() == 1) {
            talk.feed(bytes[fed], 1);
            fed++;
        }
        CHECK.same(what + ": ends at", endsAt, talk.state() == 3 ? fed : -1);
        CHECK.same(what + ": end code", endsAt < 0 ? 0 : 1007, talk.endCode());
        CHECK.same(what + ": delivered", endsAt < 0 ? 1 : 0, talk.delivered());
    }

    private static void everyPair() {
        check();
        for (int a = 0; a < 256; a++) {
            check(a);
            check('x', a);
            for (int b = 0; b < 256; b += b % 16 == 0 || b % 16 == 15 || a >= 0xE0 ? 1 : 3) {
                check(a, b);
            }
        }
    }

    private static void edges() {
        int[] leads = {0xC2, 0xDF, 0xE0, 0xE1, 0xEC, 0xED, 0xEE, 0xEF, 0xF0, 0xF1, 0xF3, 0xF4};
        int[] next = {0x00, 0x7F, 0x80, 0x8F, 0x90, 0x9F, 0xA0, 0xBF, 0xC0, 0xFF};
        for (int lead : leads) {
            for (int b : next) {
                for (int c : next) {
                    check(lead, b, c);
                    for (int d : next) {
                        check(lead, b, c, d);
                    }
                }
            }
        }
    }

    private static void randomTexts() {
        Random random = new Random(11);
        for (int run = 0; run < 3000; run++) {
            StringBuilder text = new StringBuilder();
            int signs = random.nextInt(8);
            for (int i = 0; i < signs; i++) {
                int bits = 1 + random.nextInt(20);
                int code = random.nextInt(1 << bits);
                text.appendCodePoint(code >= 0xD800 && code <= 0xDFFF ? 0x10FFFF : code);
            }
            int[] row = Other.text(text.toString());
            check(row);
            if (row.length > 0) {
                row[random.nextInt(row.length)] = random.nextInt(256);
                check(row);
            }
        }
    }

    private static void endInPieces() {
        Talk talk = Other.open();
        Other.feed(talk, Other.joined(Other.notLast(1, 0xF0), Other.notLast(0, 0x9F, 0x98), Other.notLast(0)));
        CHECK.same("a character over pieces", 1, talk.state());
        int[] end = Other.last(0);
        Other.feed(talk, end[0], end[1], end[2], end[3], end[4]);
        CHECK.same("before the last byte of the mask", 1, talk.state());
        Other.feed(talk, end[5]);
        CHECK.same("an empty last one ends it", 1007, talk.endCode());
        CHECK.same("and says so", Other.row(136, 2, 3, 239), Seen.out(talk));
        Talk anew = Other.open();
        int[] two = Other.joined(Other.last(1, 0xC3, 0xA9), Other.last(1, 'a'));
        CHECK.same("each text begins anew", 2, Other.feed(anew, two));
    }

    private static void noCheckForBytes() {
        Talk talk = Other.open();
        int[] all = new int[256];
        for (int i = 0; i < 256; i++) {
            all[i] = 255 - i;
        }
        CHECK.same("BYTES are free", 1, Other.feed(talk, Other.last(2, all)));
        CHECK.same("BYTES", all, Seen.message(talk, 0));
        CHECK.same("in MOREs, too", 1, Other.feed(talk, Other.joined(Other.notLast(2, 0xC0), Other.last(0, 0xFF))));
        Other.feed(talk, Other.joined(Other.last(9, 0xFF, 0xC0), Other.last(10, 0xFF)));
        CHECK.same("and in short ones", 1, talk.state());
    }
}

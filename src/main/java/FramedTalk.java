import java.util.NoSuchElementException;

/**
 * One end of a talk in frames, the one that was called. It checks the request, proves that it
 * understood it, reads masked frames byte by byte and puts what it has to say behind OUT.
 */
public final class FramedTalk {
    private static final int ASKED = 0;
    private static final int OPEN = 1;
    private static final int CLOSING = 2;
    private static final int CLOSED = 3;

    private static final int MORE = 0;
    private static final int TEXT = 1;
    private static final int BYTES = 2;
    private static final int CLOSE = 8;
    private static final int PING = 9;
    private static final int PONG = 10;

    private static final int CODE_WRONG_FRAME = 1002;
    private static final int CODE_NONE_GIVEN = 1005;
    private static final int CODE_NO_TEXT = 1007;
    private static final int CODE_TOO_LONG = 1009;

    private static final int DRAFT_LIMIT = 100;
    private static final int REQUEST_LIMIT = 400;
    private static final int SHORT_LIMIT = 125;
    private static final int MESSAGE_LIMIT = 300;
    private static final int WAITING_LIMIT = 4;
    private static final int SAY_LIMIT = 400;
    private static final int PONG_LIMIT = 470;
    private static final int HEADER_SIZE = 2;
    private static final int CODE_SIZE = 2;
    // A CLOSE may come on top of all that pongs may have filled, and nothing is said behind it.
    private static final int OUT_ROOM = PONG_LIMIT + HEADER_SIZE + CODE_SIZE + DRAFT_LIMIT;

    private static final int CR = 13;
    private static final int LF = 10;
    private static final String BAD_REQUEST = "HTTP/1.1 400 Bad Request\r\n\r\n";
    private static final String OTHER_VERSION =
            "HTTP/1.1 426 Upgrade Required\r\nSec-WebSocket-Version: 13\r\n\r\n";
    private static final String SWITCHING =
            "HTTP/1.1 101 Switching Protocols\r\nUpgrade: websocket\r\nConnection: Upgrade\r\n";
    private static final String BEFORE_PROOF = "Sec-WebSocket-Accept: ";
    private static final String BEHIND_PROOF = "\r\n\r\n";
    private static final String BEHIND_KEY = "258EAFA5-E914-47DA-95CA-C5AB0DC85B11";
    private static final String BASE64 =
            "ABCDEFGHIJKLMNOPQRSTUVWXYZabcdefghijklmnopqrstuvwxyz0123456789+/";

    private final Request request;
    private final FrameReader reader;
    private final Inbox inbox;
    private final Row out;
    private final Row draft;
    private final Characters characters;
    private int state;
    private int endCode;
    private int delivered;
    private int pongs;

    public FramedTalk() {
        request = new Request();
        reader = new FrameReader();
        inbox = new Inbox();
        out = new Row(OUT_ROOM);
        draft = new Row(DRAFT_LIMIT);
        characters = new Characters();
        state = ASKED;
    }

    public int feed(long w, int n) throws IllegalArgumentException, IllegalStateException {
        if (n < 1 || n > 8) {
            throw new IllegalArgumentException("n is not 1 .. 8");
        }
        if (state == CLOSED) {
            throw new IllegalStateException("the talk is closed");
        }
        int before = delivered;
        for (int i = 0; i < n && state != CLOSED; i++) {
            int b = byteOf(w, i);
            if (state != ASKED) {
                hearFrame(b);
            } else if (request.isReadWith(b)) {
                answerRequest();
            }
        }
        return delivered - before;
    }

    public int state() {
        return state;
    }

    public int endCode() {
        return endCode;
    }

    public int outLength() {
        return out.size;
    }

    public int outAt(int i) throws IndexOutOfBoundsException {
        if (!out.has(i)) {
            throw new IndexOutOfBoundsException("OUT has no such byte");
        }
        return out.at(i);
    }

    public boolean drop(int n) {
        if (n < 0 || n > out.size) {
            return false;
        }
        out.removeFirst(n);
        return true;
    }

    public int messages() {
        return inbox.count;
    }

    public int delivered() {
        return delivered;
    }

    public int kind(int k) throws NoSuchElementException {
        return waiting(k).kind;
    }

    public int length(int k) throws NoSuchElementException {
        return waiting(k).content.size;
    }

    public int byteAt(int k, int i) throws NoSuchElementException, IndexOutOfBoundsException {
        Row content = waiting(k).content;
        if (!content.has(i)) {
            throw new IndexOutOfBoundsException("the message has no such byte");
        }
        return content.at(i);
    }

    public int take() throws NoSuchElementException {
        int size = waiting(0).content.size;
        inbox.removeOldest();
        return size;
    }

    public int pongs() {
        return pongs;
    }

    public boolean write(long w, int n) {
        if (n < 1 || n > 8 || draft.size + n > DRAFT_LIMIT) {
            return false;
        }
        for (int i = 0; i < n; i++) {
            draft.add(byteOf(w, i));
        }
        return true;
    }

    public void clear() {
        draft.empty();
    }

    public int send(int kind, int size) throws IllegalArgumentException, IllegalStateException {
        if (kind != TEXT && kind != BYTES || size < 0 || size > DRAFT_LIMIT) {
            throw new IllegalArgumentException("no such kind or size");
        }
        if (kind == TEXT && !characters.areAll(draft, 0)) {
            throw new IllegalArgumentException("the draft is no text of characters");
        }
        int frames = framesOfDraft(size);
        if (!maySay(draft.size + HEADER_SIZE * frames)) {
            throw new IllegalStateException("the talk is not open or OUT is too full");
        }
        sayDraftInFrames(kind, size == 0 ? draft.size : size, frames);
        return frames;
    }

    public void ping() throws IllegalStateException {
        if (!maySay(HEADER_SIZE + draft.size)) {
            throw new IllegalStateException("the talk is not open or OUT is too full");
        }
        sayHeader(true, PING, draft.size);
        out.addPart(draft, 0, draft.size);
    }

    public void close(int code) throws IllegalArgumentException, IllegalStateException {
        if (!mayStandInClose(code)) {
            throw new IllegalArgumentException("no code of a CLOSE");
        }
        if (!characters.areAll(draft, 0)) {
            throw new IllegalArgumentException("the draft is no text of characters");
        }
        if (state != OPEN) {
            throw new IllegalStateException("the talk is not open");
        }
        sayHeader(true, CLOSE, CODE_SIZE + draft.size);
        sayCode(code);
        out.addPart(draft, 0, draft.size);
        state = CLOSING;
    }

    private static int byteOf(long w, int i) {
        return (int) (w >>> (8 * i)) & 255;
    }

    private Message waiting(int k) {
        if (k < 0 || k >= inbox.count) {
            throw new NoSuchElementException("no such message waits");
        }
        return inbox.slot(k);
    }

    private void answerRequest() {
        if (request.isBad()) {
            sayText(BAD_REQUEST);
            state = CLOSED;
        } else if (!request.asksForThisVersion()) {
            sayText(OTHER_VERSION);
            state = CLOSED;
        } else {
            sayText(SWITCHING);
            sayText(BEFORE_PROOF);
            sayProof();
            sayText(BEHIND_PROOF);
            state = OPEN;
        }
    }

    private void sayProof() {
        Digest digest = new Digest();
        request.giveKey(digest);
        for (int i = 0; i < BEHIND_KEY.length(); i++) {
            digest.add(BEHIND_KEY.charAt(i));
        }
        digest.finish();
        sayInBase64(digest);
    }

    private void sayInBase64(Digest digest) {
        for (int i = 0; i < Digest.SIZE; i += 3) {
            // The digest's last two bytes stand alone; the missing third counts as zero bits.
            int three = digest.result(i) << 16 | digest.result(i + 1) << 8 | digest.result(i + 2);
            sayBase64Sign(three >>> 18);
            sayBase64Sign(three >>> 12);
            sayBase64Sign(three >>> 6);
            if (i + 2 < Digest.SIZE) {
                sayBase64Sign(three);
            } else {
                out.add('=');
            }
        }
    }

    private void sayBase64Sign(int number) {
        out.add(BASE64.charAt(number & 63));
    }

    private void sayText(String text) {
        for (int i = 0; i < text.length(); i++) {
            out.add(text.charAt(i));
        }
    }

    private void hearFrame(int b) {
        int found = reader.read(b);
        if (found == FrameReader.WHOLE) {
            heedFrame();
        } else if (found != FrameReader.NOTHING) {
            endByViolation(found);
        }
    }

    private void heedFrame() {
        if (reader.kind == CLOSE) {
            heedClose(reader.shortContent, faultOfClose(reader.shortContent));
        } else if (reader.kind == PING) {
            heedPing(reader.shortContent);
        } else if (reader.kind == PONG) {
            pongs++;
        } else if (reader.last) {
            delivered++;
            inbox.keep(reader.message);
        }
    }

    private void heedClose(Row content, int fault) {
        if (fault != 0) {
            endByViolation(fault);
            return;
        }
        boolean hasCode = content.size >= CODE_SIZE;
        if (state == OPEN) {
            sayHeader(true, CLOSE, hasCode ? CODE_SIZE : 0);
            if (hasCode) {
                sayCode(codeIn(content));
            }
        }
        endCode = hasCode ? codeIn(content) : CODE_NONE_GIVEN;
        state = CLOSED;
    }

    private int faultOfClose(Row content) {
        if (content.size == 0) {
            return 0;
        }
        if (content.size < CODE_SIZE || !mayStandInClose(codeIn(content))) {
            return CODE_WRONG_FRAME;
        }
        return characters.areAll(content, CODE_SIZE) ? 0 : CODE_NO_TEXT;
    }

    private static int codeIn(Row content) {
        return content.at(0) << 8 | content.at(1);
    }

    private static boolean mayStandInClose(int code) {
        return code >= 1000 && code <= 1003
                || code >= 1007 && code <= 1011
                || code >= 3000 && code <= 4999;
    }

    private void heedPing(Row content) {
        if (state == OPEN && out.size + HEADER_SIZE + content.size <= PONG_LIMIT) {
            sayHeader(true, PONG, content.size);
            out.addPart(content, 0, content.size);
        }
    }

    private void endByViolation(int code) {
        if (state == OPEN) {
            sayHeader(true, CLOSE, CODE_SIZE);
            sayCode(code);
        }
        endCode = code;
        state = CLOSED;
    }

    private boolean maySay(int size) {
        return state == OPEN && out.size + size <= SAY_LIMIT;
    }

    private int framesOfDraft(int size) {
        if (size == 0 || draft.size == 0) {
            return 1;
        }
        return (draft.size + size - 1) / size;
    }

    private void sayDraftInFrames(int kind, int size, int frames) {
        for (int f = 0; f < frames; f++) {
            int from = f * size;
            int to = Math.min(from + size, draft.size);
            sayHeader(f == frames - 1, f == 0 ? kind : MORE, to - from);
            out.addPart(draft, from, to);
        }
    }

    // One byte holds every length: what this end says is never above 125 bytes in a frame.
    private void sayHeader(boolean last, int kind, int size) {
        out.add((last ? 128 : 0) + kind);
        out.add(size);
    }

    private void sayCode(int code) {
        out.add(code >>> 8);
        out.add(code);
    }

    /** A row of bytes in a room that is made once and used again. */
    private static final class Row {
        private final byte[] room;
        private int size;

        Row(int most) {
            room = new byte[most];
        }

        boolean has(int i) {
            return i >= 0 && i < size;
        }

        int at(int i) {
            return i >= 0 && i < size ? room[i] & 255 : 0;
        }

        // The limits of the document keep every row within its room; the test is for safety alone.
        void add(int b) {
            if (size < room.length) {
                room[size] = (byte) b;
                size++;
            }
        }

        void addPart(Row other, int from, int to) {
            for (int i = from; i < to; i++) {
                add(other.at(i));
            }
        }

        void removeFirst(int n) {
            for (int i = n; i < size; i++) {
                room[i - n] = room[i];
            }
            size -= n;
        }

        void empty() {
            size = 0;
        }
    }

    /** Tells byte by byte whether a row is a text of characters. */
    private static final class Characters {
        private int missing;
        private int lowest;
        private int highest;

        void restart() {
            missing = 0;
        }

        boolean areWhole() {
            return missing == 0;
        }

        boolean areAll(Row row, int from) {
            restart();
            for (int i = from; i < row.size; i++) {
                if (!goOnWith(row.at(i))) {
                    return false;
                }
            }
            return areWhole();
        }

        boolean goOnWith(int b) {
            if (missing == 0) {
                return beginWith(b);
            }
            if (b < lowest || b > highest) {
                return false;
            }
            missing--;
            lowest = 128;
            highest = 191;
            return true;
        }

        private boolean beginWith(int b) {
            if (b < 128) {
                return true;
            }
            if (b < 194 || b > 244) {
                return false;
            }
            missing = b < 224 ? 1 : b < 240 ? 2 : 3;
            lowest = b == 224 ? 160 : b == 240 ? 144 : 128;
            highest = b == 237 ? 159 : b == 244 ? 143 : 191;
            return true;
        }
    }

    /** A line of the request that there must be just once, and where its value stands. */
    private static final class Field {
        private final String name;
        private int lines;
        private int from;
        private int to;

        Field(String smallName) {
            name = smallName;
        }
    }

    /** The request, looked at line by line as it comes in. */
    private static final class Request {
        private static final String METHOD = "GET ";
        private static final String PROTOCOL = " HTTP/1.1";
        private static final int KEY_SIGNS = 22;
        private static final int KEY_SIZE = 24;

        private final Row row;
        private final Field[] fields;
        private final Field host;
        private final Field upgrade;
        private final Field connection;
        private final Field key;
        private final Field version;
        private int lineStart;
        private boolean ended;
        private boolean hasBadLine;

        Request() {
            row = new Row(REQUEST_LIMIT);
            host = new Field("host");
            upgrade = new Field("upgrade");
            connection = new Field("connection");
            key = new Field("sec-websocket-key");
            version = new Field("sec-websocket-version");
            fields = new Field[] {host, upgrade, connection, key, version};
        }

        boolean isReadWith(int b) {
            row.add(b);
            if (b == LF && row.at(row.size - 2) == CR) {
                endLine(row.size - 2);
            }
            return ended || row.size >= REQUEST_LIMIT;
        }

        boolean isBad() {
            if (!ended || hasBadLine) {
                return true;
            }
            for (int i = 0; i < fields.length; i++) {
                if (fields[i].lines != 1) {
                    return true;
                }
            }
            return host.from == host.to
                    || !hasWord(upgrade, "websocket")
                    || !hasWord(connection, "upgrade")
                    || !isKey(key.from, key.to);
        }

        boolean asksForThisVersion() {
            return spells(version.from, version.to, "13");
        }

        void giveKey(Digest digest) {
            for (int i = 0; i < KEY_SIZE; i++) {
                digest.add(row.at(key.from + i));
            }
        }

        private void endLine(int to) {
            if (lineStart == 0) {
                hasBadLine = !isFirstLine(to);
            } else if (lineStart == to) {
                ended = true;
            } else if (!takeHeader(lineStart, to)) {
                hasBadLine = true;
            }
            lineStart = row.size;
        }

        private boolean isFirstLine(int to) {
            int targetFrom = METHOD.length();
            int targetTo = to - PROTOCOL.length();
            if (targetFrom >= targetTo) {
                return false;
            }
            for (int i = targetFrom; i < targetTo; i++) {
                if (row.at(i) < 33 || row.at(i) > 126) {
                    return false;
                }
            }
            return isExactly(0, METHOD) && isExactly(targetTo, PROTOCOL);
        }

        private boolean takeHeader(int from, int to) {
            int colon = from;
            while (colon < to && isOfName(row.at(colon))) {
                colon++;
            }
            if (colon == from || colon == to || row.at(colon) != ':') {
                return false;
            }
            for (int i = colon + 1; i < to; i++) {
                if (!isOfValue(row.at(i))) {
                    return false;
                }
            }
            noteHeader(from, colon, to);
            return true;
        }

        private void noteHeader(int from, int colon, int to) {
            for (int i = 0; i < fields.length; i++) {
                Field field = fields[i];
                if (spells(from, colon, field.name)) {
                    field.lines++;
                    field.from = skipBlanks(colon + 1, to);
                    field.to = skipBlanksBack(field.from, to);
                }
            }
        }

        private boolean hasWord(Field field, String word) {
            int from = field.from;
            for (int i = field.from; i <= field.to; i++) {
                if (i == field.to || row.at(i) == ',') {
                    int wordFrom = skipBlanks(from, i);
                    if (spells(wordFrom, skipBlanksBack(wordFrom, i), word)) {
                        return true;
                    }
                    from = i + 1;
                }
            }
            return false;
        }

        private boolean isKey(int from, int to) {
            if (to - from != KEY_SIZE || !isExactly(from + KEY_SIGNS, "==")) {
                return false;
            }
            for (int i = from; i < from + KEY_SIGNS; i++) {
                if (BASE64.indexOf((char) row.at(i)) < 0) {
                    return false;
                }
            }
            // The key stands for 16 bytes, so the four lowest bits of the last sign are 0.
            return "AQgw".indexOf((char) row.at(from + KEY_SIGNS - 1)) >= 0;
        }

        private int skipBlanks(int from, int to) {
            int i = from;
            while (i < to && isBlank(row.at(i))) {
                i++;
            }
            return i;
        }

        private int skipBlanksBack(int from, int to) {
            int i = to;
            while (i > from && isBlank(row.at(i - 1))) {
                i--;
            }
            return i;
        }

        private boolean isExactly(int from, String text) {
            for (int i = 0; i < text.length(); i++) {
                if (row.at(from + i) != text.charAt(i)) {
                    return false;
                }
            }
            return true;
        }

        private boolean spells(int from, int to, String small) {
            if (to - from != small.length()) {
                return false;
            }
            for (int i = 0; i < small.length(); i++) {
                if (inSmall(row.at(from + i)) != small.charAt(i)) {
                    return false;
                }
            }
            return true;
        }

        private static int inSmall(int b) {
            return b >= 'A' && b <= 'Z' ? b + 32 : b;
        }

        private static boolean isOfName(int b) {
            return inSmall(b) >= 'a' && inSmall(b) <= 'z' || b >= '0' && b <= '9' || b == '-';
        }

        private static boolean isOfValue(int b) {
            return b >= 32 && b <= 126 || b == 9;
        }

        private static boolean isBlank(int b) {
            return b == 32 || b == 9;
        }
    }

    /** The digest of the 60 bytes that prove that the request was understood. */
    private static final class Digest {
        private static final int SIZE = 20;
        private static final int BLOCK = 64;
        private static final int STEPS = 80;

        private final Row text;
        private final int[] words;
        private final int[] hash;

        Digest() {
            text = new Row(2 * BLOCK);
            words = new int[STEPS];
            hash = new int[] {1732584193, -271733879, -1732584194, 271733878, -1009589776};
        }

        void add(int b) {
            text.add(b);
        }

        void finish() {
            long bits = 8L * text.size;
            text.add(128);
            for (int i = text.size; i < 2 * BLOCK - 8; i++) {
                text.add(0);
            }
            for (int i = 7; i >= 0; i--) {
                text.add(byteOf(bits, i));
            }
            takeBlock(0);
            takeBlock(BLOCK);
        }

        /** Byte i of the digest; 0 behind its end. */
        int result(int i) {
            return i < SIZE ? hash[i / 4] >>> (24 - 8 * (i % 4)) & 255 : 0;
        }

        private void takeBlock(int start) {
            fillWords(start);
            int a = hash[0];
            int b = hash[1];
            int c = hash[2];
            int d = hash[3];
            int e = hash[4];
            for (int t = 0; t < STEPS; t++) {
                int x = rotated(a, 5) + mixed(t, b, c, d) + e + constant(t) + words[t];
                e = d;
                d = c;
                c = rotated(b, 30);
                b = a;
                a = x;
            }
            hash[0] += a;
            hash[1] += b;
            hash[2] += c;
            hash[3] += d;
            hash[4] += e;
        }

        private void fillWords(int start) {
            for (int t = 0; t < 16; t++) {
                int i = start + 4 * t;
                words[t] = text.at(i) << 24 | text.at(i + 1) << 16
                        | text.at(i + 2) << 8 | text.at(i + 3);
            }
            for (int t = 16; t < STEPS; t++) {
                words[t] = rotated(words[t - 3] ^ words[t - 8] ^ words[t - 14] ^ words[t - 16], 1);
            }
        }

        private static int rotated(int x, int n) {
            return x << n | x >>> (32 - n);
        }

        private static int mixed(int t, int b, int c, int d) {
            if (t < 20) {
                return b & c | ~b & d;
            }
            if (t >= 40 && t < 60) {
                return b & c | b & d | c & d;
            }
            return b ^ c ^ d;
        }

        private static int constant(int t) {
            if (t < 20) {
                return 1518500249;
            }
            if (t < 40) {
                return 1859775393;
            }
            return t < 60 ? -1894007588 : -899497514;
        }
    }

    /** A TEXT or BYTES with what has come of it. */
    private static final class Message {
        private final Row content;
        private int kind;

        Message() {
            content = new Row(MESSAGE_LIMIT);
        }

        void begin(int itsKind) {
            kind = itsKind;
            content.empty();
        }
    }

    /** The messages that wait, in slots that are used in turn. */
    private static final class Inbox {
        private final Message[] slots;
        private int first;
        private int count;

        Inbox() {
            slots = new Message[WAITING_LIMIT];
            for (int i = 0; i < WAITING_LIMIT; i++) {
                slots[i] = new Message();
            }
        }

        Message slot(int k) {
            return slots[(first + k) % WAITING_LIMIT];
        }

        void keep(Message message) {
            if (count < WAITING_LIMIT) {
                Message free = slot(count);
                free.begin(message.kind);
                free.content.addPart(message.content, 0, message.content.size);
                count++;
            }
        }

        void removeOldest() {
            first = (first + 1) % WAITING_LIMIT;
            count--;
        }
    }

    /** Reads masked frames byte by byte, and puts messages together from them. */
    private static final class FrameReader {
        /** What a byte may lead to, beside the code of what it violates. */
        private static final int NOTHING = 0;
        private static final int WHOLE = 1;

        private static final int AT_FIRST = 0;
        private static final int AT_SECOND = 1;
        private static final int AT_LENGTH = 2;
        private static final int AT_MASK = 3;
        private static final int AT_CONTENT = 4;

        private static final int MASK_SIZE = 4;

        private final Row mask;
        private final Row shortContent;
        private final Message message;
        private final Characters characters;
        private boolean underWay;
        private int place;
        private int kind;
        private boolean last;
        private int lengthBytesLeft;
        private long leastLength;
        private long frameLength;
        private int contentRead;

        FrameReader() {
            mask = new Row(MASK_SIZE);
            shortContent = new Row(SHORT_LIMIT);
            message = new Message();
            characters = new Characters();
            place = AT_FIRST;
        }

        /** NOTHING, WHOLE when the frame is whole with this byte, or the code of what it violates. */
        int read(int b) {
            switch (place) {
                case AT_FIRST:
                    return readFirst(b);
                case AT_SECOND:
                    return readSecond(b);
                case AT_LENGTH:
                    return readLength(b);
                case AT_MASK:
                    return readMask(b);
                default:
                    return readContent(b);
            }
        }

        private int readFirst(int b) {
            last = (b & 128) != 0;
            kind = b & 15;
            boolean flagged = (b & 112) != 0;
            if (flagged || !isKnown() || isShort() && !last) {
                return CODE_WRONG_FRAME;
            }
            if (!isShort() && (kind == MORE) != underWay) {
                return CODE_WRONG_FRAME;
            }
            beginFrame();
            place = AT_SECOND;
            return NOTHING;
        }

        private void beginFrame() {
            mask.empty();
            contentRead = 0;
            frameLength = 0;
            if (isShort()) {
                shortContent.empty();
            } else if (kind != MORE) {
                underWay = true;
                message.begin(kind);
                characters.restart();
            }
        }

        private int readSecond(int b) {
            int number = b & 127;
            if (b < 128 || isShort() && number > SHORT_LIMIT) {
                return CODE_WRONG_FRAME;
            }
            if (number < 126) {
                frameLength = number;
                return endLength();
            }
            lengthBytesLeft = number == 126 ? 2 : 8;
            leastLength = number == 126 ? 126 : 65536;
            place = AT_LENGTH;
            return NOTHING;
        }

        private int readLength(int b) {
            frameLength = frameLength << 8 | b;
            lengthBytesLeft--;
            if (lengthBytesLeft > 0) {
                return NOTHING;
            }
            // With its highest bit 1 the length is negative here, so it is refused as well.
            return frameLength < leastLength ? CODE_WRONG_FRAME : endLength();
        }

        private int endLength() {
            if (!isShort() && frameLength > MESSAGE_LIMIT - message.content.size) {
                return CODE_TOO_LONG;
            }
            place = AT_MASK;
            return NOTHING;
        }

        private int readMask(int b) {
            mask.add(b);
            if (mask.size < MASK_SIZE) {
                return NOTHING;
            }
            place = AT_CONTENT;
            return frameLength == 0 ? endFrame() : NOTHING;
        }

        private int readContent(int b) {
            int plain = b ^ mask.at(contentRead % MASK_SIZE);
            contentRead++;
            if (isShort()) {
                shortContent.add(plain);
            } else {
                message.content.add(plain);
                if (message.kind == TEXT && !characters.goOnWith(plain)) {
                    return CODE_NO_TEXT;
                }
            }
            return contentRead < frameLength ? NOTHING : endFrame();
        }

        private int endFrame() {
            place = AT_FIRST;
            if (!isShort() && last) {
                underWay = false;
                if (message.kind == TEXT && !characters.areWhole()) {
                    return CODE_NO_TEXT;
                }
            }
            return WHOLE;
        }

        private boolean isKnown() {
            return kind <= BYTES || kind >= CLOSE && kind <= PONG;
        }

        private boolean isShort() {
            return kind >= CLOSE;
        }
    }
}

import java.nio.ByteBuffer;
import java.nio.charset.CharacterCodingException;
import java.nio.charset.StandardCharsets;
import java.security.GeneralSecurityException;
import java.security.MessageDigest;
import java.util.ArrayList;
import java.util.Arrays;
import java.util.Base64;
import java.util.List;
import java.util.Locale;
import java.util.NoSuchElementException;
import java.util.regex.Matcher;
import java.util.regex.Pattern;

/**
 * The document once more, in another way and with the Java library: the bytes of a request or of a
 * frame are gathered, and with each byte all that was gathered is looked at anew.
 */
final class Model {
    private static final Pattern FIRST_LINE = Pattern.compile("GET [!-~]+ HTTP/1\\.1");
    private static final Pattern HEADER = Pattern.compile("([A-Za-z0-9-]+):([ -~\\t]*)");
    private static final Pattern KEY = Pattern.compile("[A-Za-z0-9+/]{21}[AQgw]==");
    private static final List<String> NAMES =
            List.of("host", "upgrade", "connection", "sec-websocket-key", "sec-websocket-version");

    private int state;
    private int endCode;
    private int delivered;
    private int pongs;
    private String request = "";
    private final List<Integer> out = new ArrayList<>();
    private final List<Integer> draft = new ArrayList<>();
    private final List<List<Integer>> waiting = new ArrayList<>();
    private final List<Integer> kinds = new ArrayList<>();
    private final List<Integer> frame = new ArrayList<>();
    private List<Integer> message;
    private int messageKind;

    int feed(long w, int n) {
        if (n < 1 || n > 8) {
            throw new IllegalArgumentException();
        }
        if (state == 3) {
            throw new IllegalStateException();
        }
        int before = delivered;
        for (int i = 0; i < n; i++) {
            int b = (int) (w >> 8 * i & 0xFF);
            if (state == 0) {
                request += (char) b;
                if (request.endsWith("\r\n\r\n") || request.length() == 400) {
                    answer();
                }
            } else if (state != 3) {
                frame.add(b);
                heed();
            }
        }
        return delivered - before;
    }

    private void answer() {
        List<String> values = request.endsWith("\r\n\r\n") ? values() : null;
        state = 3;
        if (values == null) {
            sayText("HTTP/1.1 400 Bad Request\r\n\r\n");
        } else if (!values.get(4).equals("13")) {
            sayText("HTTP/1.1 426 Upgrade Required\r\nSec-WebSocket-Version: 13\r\n\r\n");
        } else {
            sayText("HTTP/1.1 101 Switching Protocols\r\nUpgrade: websocket\r\nConnection: Upgrade\r\n"
                    + "Sec-WebSocket-Accept: " + proof(values.get(3)) + "\r\n\r\n");
            state = 1;
        }
    }

    private List<String> values() {
        String[] lines = request.substring(0, request.length() - 4).split("\r\n", -1);
        if (!FIRST_LINE.matcher(lines[0]).matches()) {
            return null;
        }
        String[] values = new String[5];
        for (String line : Arrays.asList(lines).subList(1, lines.length)) {
            Matcher header = HEADER.matcher(line);
            if (!header.matches()) {
                return null;
            }
            int i = NAMES.indexOf(header.group(1).toLowerCase(Locale.ROOT));
            if (i >= 0 && values[i] != null) {
                return null;
            }
            if (i >= 0) {
                values[i] = stripped(header.group(2));
            }
        }
        boolean good = !Arrays.asList(values).contains(null) && !values[0].isEmpty()
                && hasWord(values[1], "websocket") && hasWord(values[2], "upgrade")
                && KEY.matcher(values[3]).matches();
        return good ? Arrays.asList(values) : null;
    }

    private static String stripped(String value) {
        return value.replaceAll("^[ \\t]+|[ \\t]+$", "");
    }

    private static boolean hasWord(String value, String word) {
        return Arrays.stream(value.split(",", -1)).anyMatch(w -> stripped(w).equalsIgnoreCase(word));
    }

    private static String proof(String key) {
        try {
            byte[] text = (key + "258EAFA5-E914-47DA-95CA-C5AB0DC85B11").getBytes(StandardCharsets.US_ASCII);
            return Base64.getEncoder().encodeToString(MessageDigest.getInstance("SHA-1").digest(text));
        } catch (GeneralSecurityException e) {
            throw new AssertionError(e);
        }
    }

    private void heed() {
        int kind = frame.get(0) & 15;
        boolean last = frame.get(0) >= 128;
        boolean isShort = kind == 8 || kind == 9 || kind == 10;
        boolean known = isShort || (message == null ? kind == 1 || kind == 2 : kind == 0);
        if ((frame.get(0) >> 4 & 7) != 0 || !known || isShort && !last) {
            violate(1002);
            return;
        }
        if (frame.size() < 2) {
            return;
        }
        int number = frame.get(1) - 128;
        if (number < 0 || isShort && number > 125) {
            violate(1002);
            return;
        }
        int more = number == 126 ? 2 : number == 127 ? 8 : 0;
        if (frame.size() < 2 + more) {
            return;
        }
        java.math.BigInteger length = java.math.BigInteger.valueOf(more == 0 ? number : 0);
        for (int i = 0; i < more; i++) {
            length = length.shiftLeft(8).add(java.math.BigInteger.valueOf(frame.get(2 + i)));
        }
        if (frame.size() == 2 + more) {
            checkLength(more, length, isShort);
            return;
        }
        int start = 6 + more;
        if (frame.size() < start) {
            return;
        }
        List<Integer> content = new ArrayList<>();
        for (int i = start; i < frame.size(); i++) {
            content.add(frame.get(i) ^ frame.get(2 + more + (i - start) % 4));
        }
        heedContent(kind, last, content, content.size() == length.intValueExact());
    }

    private void checkLength(int more, java.math.BigInteger length, boolean isShort) {
        boolean tooSmall = more == 2 && length.intValue() < 126 || more == 8 && length.bitLength() <= 16;
        if (tooSmall || length.testBit(63)) {
            violate(1002);
            return;
        }
        int before = message == null ? 0 : message.size();
        if (!isShort && length.compareTo(java.math.BigInteger.valueOf(300 - before)) > 0) {
            violate(1009);
        }
    }

    private void heedContent(int kind, boolean last, List<Integer> content, boolean whole) {
        if (kind >= 8) {
            if (whole) {
                frame.clear();
                heedShort(kind, content);
            }
            return;
        }
        List<Integer> all = new ArrayList<>(message == null ? List.of() : message);
        all.addAll(content);
        int itsKind = message == null ? kind : messageKind;
        if (itsKind == 1 && !(whole && last ? isText(all) : mayBegin(all))) {
            violate(1007);
        } else if (whole) {
            frame.clear();
            message = last ? null : all;
            messageKind = itsKind;
            if (last) {
                delivered++;
                if (waiting.size() < 4) {
                    waiting.add(all);
                    kinds.add(itsKind);
                }
            }
        }
    }

    private void heedShort(int kind, List<Integer> content) {
        if (kind == 10) {
            pongs++;
        } else if (kind == 9) {
            if (state == 1 && out.size() + 2 + content.size() <= 470) {
                say(138, content);
            }
        } else if (content.isEmpty()) {
            end(1005, List.of());
        } else {
            int code = content.size() == 1 ? 0 : content.get(0) * 256 + content.get(1);
            if (!isCode(code)) {
                violate(1002);
            } else if (!isText(content.subList(2, content.size()))) {
                violate(1007);
            } else {
                end(code, content.subList(0, 2));
            }
        }
    }

    private static boolean isCode(int code) {
        return code >= 3000 && code < 5000
                || List.of(1000, 1001, 1002, 1003, 1007, 1008, 1009, 1010, 1011).contains(code);
    }

    private void violate(int code) {
        end(code, List.of(code / 256, code % 256));
    }

    private void end(int code, List<Integer> said) {
        if (state == 1) {
            say(136, said);
        }
        endCode = code;
        state = 3;
    }

    private static boolean isText(List<Integer> row) {
        byte[] bytes = new byte[row.size()];
        for (int i = 0; i < bytes.length; i++) {
            bytes[i] = (byte) (int) row.get(i);
        }
        try {
            StandardCharsets.UTF_8.newDecoder().decode(ByteBuffer.wrap(bytes));
            return true;
        } catch (CharacterCodingException e) {
            return false;
        }
    }

    private static boolean mayBegin(List<Integer> row) {
        int[][] ends = {{}, {0x80}, {0x90}, {0xA0}, {0x80, 0x80}, {0x90, 0x80}, {0xA0, 0x80},
            {0x80, 0x80, 0x80}, {0x90, 0x80, 0x80}, {0xA0, 0x80, 0x80}};
        for (int[] end : ends) {
            List<Integer> all = new ArrayList<>(row);
            Arrays.stream(end).forEach(all::add);
            if (isText(all)) {
                return true;
            }
        }
        return false;
    }

    private void say(int first, List<Integer> content) {
        out.add(first);
        out.add(content.size());
        out.addAll(content);
    }

    private void sayText(String text) {
        text.chars().forEach(out::add);
    }

    boolean drop(int n) {
        if (n < 0 || n > out.size()) {
            return false;
        }
        out.subList(0, n).clear();
        return true;
    }

    int take() {
        if (waiting.isEmpty()) {
            throw new NoSuchElementException();
        }
        kinds.remove(0);
        return waiting.remove(0).size();
    }

    boolean write(long w, int n) {
        if (n < 1 || n > 8 || draft.size() + n > 100) {
            return false;
        }
        for (int i = 0; i < n; i++) {
            draft.add((int) (w >> 8 * i & 0xFF));
        }
        return true;
    }

    void clear() {
        draft.clear();
    }

    int send(int kind, int size) {
        if (kind < 1 || kind > 2 || size < 0 || size > 100 || kind == 1 && !isText(draft)) {
            throw new IllegalArgumentException();
        }
        List<List<Integer>> pieces = new ArrayList<>();
        for (int at = 0; at == 0 || at < draft.size(); at += size == 0 ? 100 : size) {
            pieces.add(draft.subList(at, size == 0 ? draft.size() : Math.min(draft.size(), at + size)));
        }
        if (state != 1 || out.size() + draft.size() + 2 * pieces.size() > 400) {
            throw new IllegalStateException();
        }
        for (int i = 0; i < pieces.size(); i++) {
            say((i == 0 ? kind : 0) + (i == pieces.size() - 1 ? 128 : 0), pieces.get(i));
        }
        return pieces.size();
    }

    void ping() {
        if (state != 1 || out.size() + draft.size() > 398) {
            throw new IllegalStateException();
        }
        say(137, draft);
    }

    void close(int code) {
        if (!isCode(code) || !isText(draft)) {
            throw new IllegalArgumentException();
        }
        if (state != 1) {
            throw new IllegalStateException();
        }
        List<Integer> content = new ArrayList<>(List.of(code / 256, code % 256));
        content.addAll(draft);
        say(136, content);
        state = 2;
    }

    int state() {
        return state;
    }

    int endCode() {
        return endCode;
    }

    int outLength() {
        return out.size();
    }

    int outAt(int i) {
        if (i < 0 || i >= out.size()) {
            throw new IndexOutOfBoundsException();
        }
        return out.get(i);
    }

    int messages() {
        return waiting.size();
    }

    int delivered() {
        return delivered;
    }

    int pongs() {
        return pongs;
    }

    int kind(int k) {
        return kinds.get(existing(k));
    }

    int length(int k) {
        return waiting.get(existing(k)).size();
    }

    int byteAt(int k, int i) {
        List<Integer> content = waiting.get(existing(k));
        if (i < 0 || i >= content.size()) {
            throw new IndexOutOfBoundsException();
        }
        return content.get(i);
    }

    private int existing(int k) {
        if (k < 0 || k >= waiting.size()) {
            throw new NoSuchElementException();
        }
        return k;
    }

    /** As Seen.all tells it of a talk. */
    String all() {
        StringBuilder seen = new StringBuilder();
        seen.append("state ").append(state).append(", end ").append(endCode);
        seen.append(", delivered ").append(delivered).append(", pongs ").append(pongs);
        seen.append(", out ");
        out.forEach(b -> seen.append(b).append(' '));
        for (int k = 0; k < waiting.size(); k++) {
            seen.append(", message ").append(kinds.get(k)).append(": ");
            waiting.get(k).forEach(b -> seen.append(b).append(' '));
        }
        return seen.toString();
    }
}

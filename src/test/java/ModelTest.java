import java.util.ArrayList;
import java.util.List;
import java.util.Random;
import java.util.concurrent.Callable;

/** All promises: runs of up to 512 calls made by chance (from fixed seeds), against the model. */
final class ModelTest {
    private static final Check CHECK = new Check("ModelTest");
    private static final int RUNS = 4000;
    private static final int CALLS_FOR_A_LOOK = 100;
    private static final int CALLS_BEHIND_THE_END = 15;
    private static final String[] TEXTS = {"", "a", "hello", "\u00e9", "\u20ac\u20ac", "\ud83d\ude00", "x\u0800y"};
    private static final int[][] NO_TEXTS = {
        {0x80}, {0xC1, 0xBF}, {0xE0, 0x9F, 0xBF}, {0xED, 0xA0, 0x80}, {0xF0, 0x8F, 0xBF, 0xBF},
        {0xF4, 0x90, 0x80, 0x80}, {0xF5, 0x80, 0x80, 0x80}, {0xC2}, {0xE1, 0x80}, {0xF1, 0x80, 0x80, 0x61},
    };
    private static final int[] CODES = {
        1000, 1000, 1000, 1001, 1003, 1004, 1005, 1007, 1011, 1012, 2999, 3000, 4999, 5000, 0, 65535,
    };

    private final Random random;
    private final Talk talk = new Talk();
    private final Model model = new Model();
    private final List<Integer> coming = new ArrayList<>();
    private final StringBuilder calls = new StringBuilder();
    private boolean underWay;
    private boolean isFine = true;
    private final int evil;
    private static final int[] ENDS = new int[5001];
    private static final int[] STATES = new int[4];

    private ModelTest(int seed) {
        random = new Random(seed);
        evil = seed % 4 == 0 ? 5 : seed % 4 == 1 ? 40 : 400;
    }

    public static void main(String[] args) {
        for (int seed = 0; seed < RUNS; seed++) {
            new ModelTest(seed).run();
        }
        for (int code : new int[] {0, 1000, 1002, 1005, 1007, 1009}) {
            CHECK.same("some runs end with " + code, true, ENDS[code] > 10);
        }
        for (int state = 1; state <= 3; state++) {
            CHECK.same("some runs end in state " + state, true, STATES[state] > 10);
        }
        CHECK.end();
    }

    private void run() {
        addRequest();
        int callsBehindTheEnd = 0;
        while (talk.callsLeft() > 0 && isFine && callsBehindTheEnd < CALLS_BEHIND_THE_END) {
            step();
            callsBehindTheEnd += model.state() == 3 ? 1 : 0;
            boolean mayLook = talk.callsLeft() >= CALLS_FOR_A_LOOK;
            if (isFine && mayLook && (callsBehindTheEnd == CALLS_BEHIND_THE_END || random.nextInt(60) == 0)) {
                lookAtAll();
            }
        }
        STATES[model.state()]++;
        ENDS[Math.min(5000, model.endCode())]++;
    }

    private void step() {
        int chance = random.nextInt(100);
        boolean isAsking = model.state() == 0 && random.nextInt(12) > 0;
        if (isAsking || chance < 50) {
            feed();
        } else if (chance < 55) {
            int n = random.nextInt(12) == 0 ? edge(model.outLength()) : random.nextInt(model.outLength() + 1);
            both("drop " + n, () -> talk.drop(n), () -> model.drop(n));
        } else if (chance < 59) {
            both("take", talk::take, model::take);
        } else if (chance < 67) {
            write();
        } else if (chance < 68) {
            both("clear", () -> { talk.clear(); return 0; }, () -> { model.clear(); return 0; });
        } else if (chance < 72) {
            int kind = random.nextInt(12) == 0 ? random.nextInt(12) - 1 : 1 + random.nextInt(2);
            int size = random.nextInt(6) == 0 ? edge(100) : random.nextInt(12);
            both("send " + kind + " " + size, () -> talk.send(kind, size), () -> model.send(kind, size));
        } else if (chance < 75) {
            both("ping", () -> { talk.ping(); return 0; }, () -> { model.ping(); return 0; });
        } else if (chance < 76) {
            close();
        } else {
            look();
        }
    }

    private void close() {
        if (random.nextInt(4) == 0) {
            int code = CODES[random.nextInt(CODES.length)];
            both("close " + code, () -> { talk.close(code); return 0; }, () -> { model.close(code); return 0; });
        }
    }

    private void look() {
        int k = random.nextInt(6) == 0 ? edge(model.messages()) : random.nextInt(model.messages() + 1);
        switch (random.nextInt(10)) {
            case 0:
                both("state", talk::state, model::state);
                break;
            case 1:
                both("endCode", talk::endCode, model::endCode);
                break;
            case 2:
                both("outLength", talk::outLength, model::outLength);
                break;
            case 3:
                both("messages", talk::messages, model::messages);
                break;
            case 4:
                both("delivered", talk::delivered, model::delivered);
                break;
            case 5:
                both("pongs", talk::pongs, model::pongs);
                break;
            case 6:
                both("kind " + k, () -> talk.kind(k), () -> model.kind(k));
                break;
            case 7:
                both("length " + k, () -> talk.length(k), () -> model.length(k));
                break;
            case 8:
                int at = random.nextInt(6) == 0 ? edge(model.outLength()) : random.nextInt(model.outLength() + 1);
                both("outAt " + at, () -> talk.outAt(at), () -> model.outAt(at));
                break;
            default:
                int size = k >= 0 && k < model.messages() ? model.length(k) : 0;
                int i = random.nextInt(6) == 0 ? edge(size) : random.nextInt(size + 1);
                both("byteAt " + k + " " + i, () -> talk.byteAt(k, i), () -> model.byteAt(k, i));
        }
    }

    private int edge(int at) {
        int[] edges = {-1, 0, at - 1, at, at + 1, Integer.MIN_VALUE, Integer.MAX_VALUE};
        return edges[random.nextInt(edges.length)];
    }

    private void feed() {
        int n = random.nextInt(50) == 0 ? random.nextInt(12) - 1 : random.nextInt(4) > 0 ? 8 : 1 + random.nextInt(8);
        long w = random.nextLong();
        for (int i = 0; i < n && n <= 8; i++) {
            if (coming.isEmpty()) {
                addFrame();
            }
            w = w & ~(255L << 8 * i) | (long) coming.remove(0) << 8 * i;
        }
        long here = w;
        both("feed " + w + " " + n, () -> talk.feed(here, n), () -> model.feed(here, n));
    }

    private void write() {
        int[] text = Other.text(TEXTS[random.nextInt(TEXTS.length)]);
        int n = random.nextInt(20) == 0 ? random.nextInt(12) - 1 : text.length;
        long w = random.nextInt(30) == 0 ? random.nextLong() : 0x4141414141414141L;
        for (int i = 0; i < text.length; i++) {
            w = w & ~(255L << 8 * i) | (long) text[i] << 8 * i;
        }
        long here = w;
        both("write " + w + " " + n, () -> talk.write(here, n), () -> model.write(here, n));
    }

    private void both(String call, Callable<Object> real, Callable<Object> due) {
        calls.append(call).append("; ");
        compare(call, answer(due), answer(real));
    }

    private void lookAtAll() {
        compare("all", model.all(), Seen.all(talk));
    }

    private void compare(String what, String want, String got) {
        isFine = want.equals(got);
        CHECK.same(isFine ? what : calls + what, want, got);
    }

    private static String answer(Callable<Object> call) {
        try {
            return String.valueOf(call.call());
        } catch (Exception e) {
            return e.getClass().getSimpleName();
        }
    }

    private void add(int... bytes) {
        for (int b : bytes) {
            coming.add(b);
        }
    }

    private void addRequest() {
        List<String> lines = new ArrayList<>(List.of(Other.GOOD));
        if (random.nextInt(3) == 0) {
            varyLines(lines);
        }
        if (random.nextInt(10) == 0) {
            lines.remove(random.nextInt(lines.size()));
        } else if (random.nextInt(10) == 0) {
            lines.add(1 + random.nextInt(lines.size()), lines.get(random.nextInt(lines.size())));
        }
        if (random.nextInt(12) == 0) {
            fillUpTo(lines, 396 + random.nextInt(8));
        }
        String request = Other.request(lines.toArray(new String[0]));
        add(Other.codes(random.nextInt(8) == 0 ? damaged(request) : request));
    }

    private void varyLines(List<String> lines) {
        String words = random.nextBoolean() ? "keep-alive, Upgrade" : "up, upgrade2,,\tupGRADE ";
        String host = random.nextInt(8) == 0 ? "" : "a b";
        String version = random.nextInt(8) == 0 ? "1 3" : "13";
        String[] values = {host, "h2c ,WebSocket", words, key(), version};
        for (int i = 1; i < lines.size(); i++) {
            String name = lines.get(i).substring(0, lines.get(i).indexOf(':'));
            lines.set(i, inAnyCase(name) + ":" + blanks() + values[i - 1] + blanks());
        }
        lines.add("-9x:" + blanks());
        java.util.Collections.shuffle(lines.subList(1, lines.size()), random);
    }

    private void fillUpTo(List<String> lines, int length) {
        int missing = length - Other.request(lines.toArray(new String[0])).length() - "p:\r\n".length();
        if (missing >= 0) {
            lines.add(1 + random.nextInt(lines.size()), "p:" + "q".repeat(missing));
        }
    }

    private String damaged(String request) {
        String signs = "\r\n\t ,:-=aAwW13/\0\u00ff";
        char sign = signs.charAt(random.nextInt(signs.length()));
        StringBuilder changed = new StringBuilder(request);
        int at = random.nextInt(changed.length());
        switch (random.nextInt(3)) {
            case 0:
                return changed.deleteCharAt(at).toString();
            case 1:
                return changed.insert(at, sign).toString();
            default:
                changed.setCharAt(at, sign);
                return changed.toString();
        }
    }

    private String key() {
        byte[] raw = new byte[16];
        random.nextBytes(raw);
        return java.util.Base64.getEncoder().encodeToString(raw);
    }

    private String inAnyCase(String text) {
        StringBuilder mixed = new StringBuilder();
        for (char c : text.toCharArray()) {
            mixed.append(random.nextBoolean() ? Character.toUpperCase(c) : Character.toLowerCase(c));
        }
        return mixed.toString();
    }

    private String blanks() {
        return new String[] {"", " ", "\t", " \t "}[random.nextInt(4)];
    }

    private void addFrame() {
        if (random.nextInt(evil) == 0) {
            addEvil();
            return;
        }
        int chance = random.nextInt(20);
        if (chance < 4) {
            add(Other.last(9, content(30)));
        } else if (chance < 6) {
            add(Other.last(10, content(10)));
        } else if (chance == 6 && random.nextInt(6) == 0) {
            addClose();
        } else {
            addPiece();
        }
    }

    private void addClose() {
        int code = CODES[random.nextInt(CODES.length)];
        int[] reason = Other.text(TEXTS[random.nextInt(TEXTS.length)]);
        switch (random.nextInt(5)) {
            case 0:
                add(Other.last(8));
                break;
            case 1:
                add(Other.last(8, 3));
                break;
            case 2:
                add(Other.last(8, Other.joined(Other.row(code >> 8, code & 255), reason, Other.row(0xE2, 0x82))));
                break;
            default:
                add(Other.last(8, Other.joined(Other.row(code >> 8, code & 255), reason)));
        }
    }

    private void addPiece() {
        boolean last = random.nextInt(3) > 0;
        int kind = underWay ? 0 : 1 + random.nextInt(2);
        int[] content = Other.text(TEXTS[random.nextInt(TEXTS.length)]);
        if (random.nextInt(12) == 0) {
            content = Other.many(random.nextInt(200), 'm');
        }
        if (content.length > 1 && !underWay && random.nextInt(4) == 0) {
            int cut = random.nextInt(content.length);
            add(Other.notLast(kind, java.util.Arrays.copyOf(content, cut)));
            add(Other.last(9, content(3)));
            add(Other.last(0, java.util.Arrays.copyOfRange(content, cut, content.length)));
            return;
        }
        add(Other.frame((last ? 128 : 0) + kind, content));
        underWay = !last;
    }

    private void addEvil() {
        switch (random.nextInt(6)) {
            case 0:
                add(random.nextInt(256), random.nextInt(256));
                break;
            case 1:
                int[] noText = random.nextBoolean() ? content(6) : NO_TEXTS[random.nextInt(NO_TEXTS.length)];
                add(Other.last(underWay ? 0 : 1, noText));
                underWay = false;
                break;
            case 2:
                int length = new int[] {0, 125, 126, 300, 301, 65535}[random.nextInt(6)];
                add((underWay ? 0 : 2) + 128, 254, length >> 8, length & 255);
                break;
            case 3:
                add((underWay ? 0 : 2) + 128, 255, random.nextInt(4) * 64, 0, 0, 0, 0, random.nextInt(2), 255, 255);
                break;
            case 4:
                add(Other.last(8, content(20)));
                break;
            default:
                add(Other.last(underWay ? 0 : 2, Other.many(290 + random.nextInt(15), 'l')));
                underWay = false;
        }
    }

    private int[] content(int most) {
        int[] content = new int[random.nextInt(most)];
        for (int i = 0; i < content.length; i++) {
            content[i] = random.nextInt(256);
        }
        return content;
    }
}

/** All that the face shows of a talk (but for the draft, which only what is said shows). */
final class Seen {
    private Seen() {
    }

    static String all(FramedTalk talk) {
        StringBuilder seen = new StringBuilder();
        seen.append("state ").append(talk.state()).append(", end ").append(talk.endCode());
        seen.append(", delivered ").append(talk.delivered()).append(", pongs ").append(talk.pongs());
        seen.append(", out ");
        for (int b : out(talk)) {
            seen.append(b).append(' ');
        }
        for (int k = 0; k < talk.messages(); k++) {
            seen.append(", message ").append(talk.kind(k)).append(": ");
            for (int b : message(talk, k)) {
                seen.append(b).append(' ');
            }
        }
        return seen.toString();
    }

    static int[] out(FramedTalk talk) {
        int[] out = new int[talk.outLength()];
        for (int i = 0; i < out.length; i++) {
            out[i] = talk.outAt(i);
        }
        return out;
    }

    static String outText(FramedTalk talk) {
        StringBuilder text = new StringBuilder();
        for (int b : out(talk)) {
            text.append((char) b);
        }
        return text.toString();
    }

    static int[] message(FramedTalk talk, int k) {
        int[] content = new int[talk.length(k)];
        for (int i = 0; i < content.length; i++) {
            content[i] = talk.byteAt(k, i);
        }
        return content;
    }
}

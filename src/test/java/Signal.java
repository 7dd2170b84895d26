/**
 * A signal as a text, told apart by commas: "v by n" is a fill, "k* v by n" k such fills, and "bump p c h a" a frame
 * of one smooth bump, by pattern p, about sample c, h samples to each side and a high.
 */
final class Signal {
    private static final int[][] PATTERNS = {
        {1}, {1, -1}, {1, 0, -1, 0}, {1, 1, -1, -1}, {1, 0, 0}, {1, -1, 0}, {1, 0, 0, 0}, {0, 1, 1, 0, -1, -1},
        {64, 55},
    };
    private static final int[] SHARES = {1, 1, 1, 1, 1, 1, 1, 1, 64};

    private final VoiceFrames voice;

    private Signal(VoiceFrames voice) {
        this.voice = voice;
    }

    /** Encodes all whole frames of the signal. */
    static VoiceFrames encoded(String text) {
        Signal signal = new Signal(new VoiceFrames());
        for (String piece : text.split(", ")) {
            signal.add(piece);
        }
        return signal.voice;
    }

    private void add(String piece) {
        int star = piece.indexOf("* ");
        int times = star < 0 ? 1 : Integer.parseInt(piece.substring(0, star));
        String[] words = piece.substring(star < 0 ? 0 : star + 2).split(" ");
        for (int i = 0; i < times; i++) {
            if (words[0].equals("bump")) {
                bump(number(words[1]), number(words[2]), number(words[3]), number(words[4]));
            } else {
                came(voice.fill(number(words[0]), number(words[1]), number(words[2])));
            }
        }
    }

    private static int number(String word) {
        return Integer.parseInt(word);
    }

    private void bump(int pattern, int centre, int half, int high) {
        int[] signs = PATTERNS[pattern];
        for (int k = 0; k < 160; k++) {
            int off = k - centre;
            long share = Math.abs(off) >= half ? 0 : (half * half - off * off) * 1024L / (half * half);
            int height = (int) ((share * share * share * high) >> 30);
            came(voice.put(height * signs[k % signs.length] / SHARES[pattern]));
        }
    }

    private void came(int samples) {
        if (samples == 160) {
            voice.encode();
        }
    }
}

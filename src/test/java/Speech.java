/** A signal of straight pieces, 20 samples each, that comes again after some pieces and changes every other frame. */
final class Speech {
    private static final int PIECES = 8;

    final int seed;
    private final int quieter;
    private final int period;

    Speech(int seed, int quieter, int period) {
        this.seed = seed;
        this.quieter = quieter;
        this.period = period;
    }

    void fillFrame(VoiceFrames voice, int frame) {
        for (int piece = 0; piece < PIECES; piece++) {
            int mixed = mix(seed, frame / 2, piece % period);
            int v = (((mixed >> 8) & 0xffff) - 32768) >> quieter;
            int by = (((mixed & 255) - 128) * 16) >> quieter;
            voice.fill(v, by, 20);
        }
    }

    static int mix(int seed, int frame, int piece) {
        int h = seed * 1000003 + frame * 8191 + piece;
        h = h * 1103515245 + 12345;
        h ^= h >>> 15;
        h *= 0x2c1b3c6d;
        return h ^ (h >>> 12);
    }
}

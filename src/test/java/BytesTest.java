/** Promises 6, 7 and 9: feed, take and hand. */
public final class BytesTest {
    public static void main(String[] args) {
        feedCounts();
        feedRefuses();
        takeReplaces();
        handNeverThrows();
        Check.end();
    }

    private static void feedCounts() {
        VoiceFrames voice = new VoiceFrames();
        Check.due("feed of 0", voice.feed(-1L, 0), 0);
        Check.due("feed of 3", voice.feed(0x8877665544332211L, 3), 3);
        Check.due("feed of 8", voice.feed(0xff00fe01fd02fc03L, 8), 11);
        Check.due("bytes at hand", Check.handed(voice), "11223303fc02fd01fe00ff");
        Check.due("hand(10)", voice.hand(10), 255);
        Check.due("hand(11)", voice.hand(11), VoiceFrames.NONE);
        voice.feed(1, 8);
        voice.feed(2, 8);
        Check.due("feed up to 33", voice.feed(Long.MIN_VALUE, 6), 33);
        Check.due("feed of 0 with 33", voice.feed(7, 0), 33);
        Check.due("about(1)", voice.about(1), 33);
        Check.due("hand(32)", voice.hand(32), 0);
        Check.due("hand(33)", voice.hand(33), VoiceFrames.NONE);
    }

    private static void feedRefuses() {
        VoiceFrames voice = new VoiceFrames();
        int[] wrong = {-1, 9, Integer.MIN_VALUE, Integer.MAX_VALUE};
        for (int n : wrong) {
            Check.argument("feed(0, " + n + ")", () -> voice.feed(0, n));
        }
        for (int i = 0; i < 4; i++) {
            voice.feed(-1, 7);
        }
        Check.illegalState("feed beyond 33", () -> voice.feed(0, 6));
        Check.argument("feed of 9 beyond 33", () -> voice.feed(0, 9));
        Check.due("bytes behind refused feeds", voice.about(1), 28);
        Check.due("hand(28)", voice.hand(28), VoiceFrames.NONE);
        Check.due("feed of 5", voice.feed(0x0504030201L, 5), 33);
        Check.due("hand(27)", voice.hand(27), 255);
        Check.due("hand(28)", voice.hand(28), 1);
        Check.due("hand(32)", voice.hand(32), 5);
        Check.illegalState("feed of 1 with 33", () -> voice.feed(0, 1));
    }

    private static void takeReplaces() {
        VoiceFrames voice = new VoiceFrames();
        voice.feed(-1, 8);
        Check.due("take() before any frame", voice.take(), 33);
        StringBuilder zeros = new StringBuilder("d0");
        for (int i = 1; i < 33; i++) {
            zeros.append("00");
        }
        Check.due("bytes of zeros", Check.handed(voice), zeros.toString());
        Golden row = Golden.ROWS[3];
        voice.take();
        voice.decode();
        Check.feedAll(voice, Check.bytes(row.frames[2]));
        voice.decode();
        Check.due("bytes behind decode()", voice.about(1), 0);
        Check.due("take() of a frame decoded", voice.take(), 33);
        Check.due("bytes of a frame decoded", Check.handed(voice), row.frames[2]);
        Check.due("take() again", voice.take(), 33);
        Check.due("bytes again", Check.handed(voice), row.frames[2]);
    }

    private static void handNeverThrows() {
        VoiceFrames voice = new VoiceFrames();
        int[] beyond = {0, 1, 33, -1, Integer.MAX_VALUE, Integer.MIN_VALUE};
        for (int i : beyond) {
            Check.due("hand(" + i + ") of nothing", voice.hand(i), VoiceFrames.NONE);
        }
        voice.take();
        int[] beyondAll = {33, 34, 1000, -1, Integer.MAX_VALUE, Integer.MIN_VALUE};
        for (int i : beyondAll) {
            Check.due("hand(" + i + ") of 33", voice.hand(i), VoiceFrames.NONE);
        }
        Check.due("hand(0)", voice.hand(0), 208);
    }
}

/** Promises 2 and 3: put and fill. */
public final class SamplesTest {
    public static void main(String[] args) {
        putCounts();
        putRefuses();
        fillCounts();
        fillRefuses();
        fillIsManyPuts();
        fillKeepsLowestSixteenBits();
        Check.end();
    }

    private static void putCounts() {
        VoiceFrames voice = new VoiceFrames();
        for (int i = 1; i <= 160; i++) {
            Check.due("put number " + i, voice.put(i % 2 == 0 ? 32767 : -32768), i);
            Check.due("about(0)", voice.about(0), i);
        }
    }

    private static void putRefuses() {
        VoiceFrames voice = new VoiceFrames();
        int[] wrong = {32768, -32769, Integer.MAX_VALUE, Integer.MIN_VALUE};
        for (int sample : wrong) {
            Check.argument("put(" + sample + ")", () -> voice.put(sample));
        }
        Check.due("samples behind wrong ones", voice.about(0), 0);
        voice.fill(0, 0, 160);
        Check.illegalState("put(1) with 160", () -> voice.put(1));
        Check.argument("put(32768) with 160", () -> voice.put(32768));
        Check.due("samples behind a full frame", voice.about(0), 160);
    }

    private static void fillCounts() {
        VoiceFrames voice = new VoiceFrames();
        Check.due("fill of 0", voice.fill(5, 5, 0), 0);
        Check.due("fill of 159", voice.fill(5, 5, 159), 159);
        Check.due("fill of 0", voice.fill(5, 5, 0), 159);
        Check.due("fill of 1", voice.fill(5, 5, 1), 160);
        Check.due("fill of 0 with 160", voice.fill(5, 5, 0), 160);
        Check.due("fill of 160", new VoiceFrames().fill(1, 2, 160), 160);
    }

    private static void fillRefuses() {
        VoiceFrames voice = new VoiceFrames();
        int[] wrong = {-1, 161, Integer.MIN_VALUE, Integer.MAX_VALUE};
        for (int n : wrong) {
            Check.argument("fill(0, 0, " + n + ")", () -> voice.fill(0, 0, n));
        }
        voice.fill(0, 0, 100);
        Check.illegalState("fill beyond 160", () -> voice.fill(30000, 0, 61));
        Check.argument("fill of 161 behind 100", () -> voice.fill(30000, 0, 161));
        Check.due("samples behind refused fills", voice.about(0), 100);
        voice.fill(0, 0, 60);
        voice.encode();
        Check.due("refused fills leave no sound", voice.state(6, 1), 0);
    }

    private static void fillIsManyPuts() {
        VoiceFrames filled = new VoiceFrames();
        filled.fill(-7000, 93, 90);
        filled.fill(4000, -57, 70);
        VoiceFrames put = new VoiceFrames();
        for (int i = 0; i < 90; i++) {
            put.put(-7000 + 93 * i);
        }
        for (int i = 0; i < 70; i++) {
            put.put(4000 - 57 * i);
        }
        sameFrame("fill and put", filled, put);
    }

    private static void fillKeepsLowestSixteenBits() {
        VoiceFrames filled = new VoiceFrames();
        filled.fill(Integer.MAX_VALUE - 100, 1234567891, 160);
        VoiceFrames put = new VoiceFrames();
        for (int i = 0; i < 160; i++) {
            long value = Math.floorMod(Integer.MAX_VALUE - 100 + 1234567891L * i, 65536L);
            put.put((int) (value >= 32768 ? value - 65536 : value));
        }
        sameFrame("fill that wraps around", filled, put);
    }

    private static void sameFrame(String what, VoiceFrames one, VoiceFrames other) {
        one.encode();
        other.encode();
        one.take();
        other.take();
        Check.due(what, Check.handed(one), Check.handed(other));
        Check.due(what + ", state", Check.encoderHash(one), Check.encoderHash(other));
    }
}

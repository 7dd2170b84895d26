/** Promise 4: encode. */
public final class Promise04EncodeTest {
    public static void main(String[] args) {
        Check.test("promise 4: known frames", Promise04EncodeTest::knownFrames);
        Check.test("promise 4: how many frames were encoded", Promise04EncodeTest::counts);
        Check.test("promise 4: the samples are gone then", Promise04EncodeTest::samplesAreGone);
        Check.test("promise 4: there are not 160", Promise04EncodeTest::notAll);
        Check.test("promise 4: the decoding and its samples stay", Promise04EncodeTest::decodingStays);
        Check.end();
    }

    private static void knownFrames() {
        for (Golden row : Golden.ROWS) {
            VoiceFrames voice = new VoiceFrames();
            for (int frame = 0; frame < row.frames.length; frame++) {
                row.speech.fillFrame(voice, frame);
                Check.due("encode()", voice.encode(), frame + 1);
                voice.take();
                Check.due("speech " + row.speech.seed + " frame " + frame, Check.handed(voice), row.frames[frame]);
            }
            Check.due("speech " + row.speech.seed + " state", Check.encoderHash(voice), row.encoderState);
        }
    }

    /** Three calls a frame, up to an object's 510th call. */
    private static void counts() {
        VoiceFrames voice = new VoiceFrames();
        for (int frame = 1; frame <= 170; frame++) {
            voice.fill(100 * frame, frame, 160);
            Check.due("encode()", voice.encode(), frame);
            Check.due("frames encoded", voice.about(2), frame);
        }
        Check.due("frames decoded", voice.about(3), 0);
        Check.due("samples", voice.about(0), 0);
    }

    private static void samplesAreGone() {
        VoiceFrames voice = Twins.full();
        Check.due("encode() of 160", voice.encode(), 2);
        Check.due("samples", voice.about(0), 0);
        Check.due("encode() again throws", Check.thrown(voice::encode), Twins.STATE);
        Check.due("the next put", voice.put(0), 1);
        Twins.same("samples that were refused", () -> {
            VoiceFrames again = Twins.full();
            again.encode();
            Check.due("encode() of none throws", Check.thrown(again::encode), Twins.STATE);
            return again;
        }, () -> {
            VoiceFrames once = Twins.full();
            once.encode();
            return once;
        });
    }

    private static void notAll() {
        int[] counts = {0, 1, 2, 40, 80, 158, 159};
        for (int count : counts) {
            Twins.refused("encode() of " + count, Twins.STATE, () -> {
                VoiceFrames voice = Twins.spoken(1);
                voice.fill(12345, -99, count);
                return voice;
            }, VoiceFrames::encode);
        }
        Twins.refused("encode() of a new object", Twins.STATE, Twins::fresh, VoiceFrames::encode);
        Twins.refused("encode() of a busy object", Twins.STATE, Twins::busy, VoiceFrames::encode);
        VoiceFrames voice = new VoiceFrames();
        voice.fill(12345, -99, 159);
        Check.due("encode() of 159 throws", Check.thrown(voice::encode), Twins.STATE);
        voice.put(-3396);
        Check.due("encode() of 160", voice.encode(), 1);
    }

    private static void decodingStays() {
        VoiceFrames voice = Twins.full();
        int state = Check.decoderHash(voice);
        int sample = voice.sample(77);
        voice.encode();
        Check.due("state of the decoding", Check.decoderHash(voice), state);
        Check.due("sample(77)", voice.sample(77), sample);
        Check.due("frames decoded", voice.about(3), 1);
        Check.due("bytes at hand", Check.handed(voice), Golden.ROWS[1].frames[3]);
    }
}

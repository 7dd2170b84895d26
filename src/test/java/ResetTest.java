/** Promise 11: reset. */
public final class ResetTest {
    public static void main(String[] args) {
        ofTheEncoding();
        ofTheDecoding();
        ofBoth();
        latestFrameOfBoth();
        startsOverTheSame();
        refuses();
        Check.end();
    }

    /** Two frames encoded and decoded, with 50 samples and 11 bytes at hand. */
    private static VoiceFrames used() {
        VoiceFrames voice = new VoiceFrames();
        for (int frame = 0; frame < 2; frame++) {
            Golden.ROWS[2].speech.fillFrame(voice, frame);
            voice.encode();
            voice.take();
            voice.decode();
        }
        voice.fill(3000, 10, 50);
        voice.feed(-1, 8);
        voice.feed(-1, 3);
        return voice;
    }

    private static void ofTheEncoding() {
        VoiceFrames voice = used();
        int decoder = Check.decoderHash(voice);
        int samples = voice.sample(100);
        voice.reset(0);
        Check.due("encoder behind reset(0)", Check.encoderHash(voice), Check.encoderHash(new VoiceFrames()));
        Check.due("decoder behind reset(0)", Check.decoderHash(voice), decoder);
        counts("reset(0)", voice, 50, 11, 0, 2);
        Check.due("sample behind reset(0)", voice.sample(100), samples);
        Check.due("hand(10) behind reset(0)", voice.hand(10), 255);
        Check.due("parameter(0) behind reset(0)", voice.parameter(0), used().parameter(0));
    }

    private static void ofTheDecoding() {
        VoiceFrames voice = used();
        int encoder = Check.encoderHash(voice);
        int samples = voice.sample(100);
        voice.reset(1);
        Check.due("encoder behind reset(1)", Check.encoderHash(voice), encoder);
        Check.due("decoder behind reset(1)", Check.decoderHash(voice), Check.decoderHash(new VoiceFrames()));
        counts("reset(1)", voice, 50, 11, 2, 0);
        Check.due("sample behind reset(1)", voice.sample(100), samples);
        Check.due("parameter(0) behind reset(1)", voice.parameter(0), used().parameter(0));
    }

    private static void ofBoth() {
        VoiceFrames voice = used();
        voice.reset(2);
        Check.due("encoder behind reset(2)", Check.encoderHash(voice), Check.encoderHash(new VoiceFrames()));
        Check.due("decoder behind reset(2)", Check.decoderHash(voice), Check.decoderHash(new VoiceFrames()));
        counts("reset(2)", voice, 0, 0, 0, 0);
        Check.due("hand(0) behind reset(2)", voice.hand(0), VoiceFrames.NONE);
    }

    private static void latestFrameOfBoth() {
        VoiceFrames voice = used();
        voice.reset(2);
        Check.due("parameters behind reset(2)", Check.hash(0, 76, voice::parameter), 0);
        Check.due("samples behind reset(2)", Check.hash(0, 160, voice::sample), 0);
    }

    private static void startsOverTheSame() {
        Golden row = Golden.ROWS[4];
        VoiceFrames voice = used();
        voice.reset(2);
        for (int frame = 0; frame < row.frames.length; frame++) {
            row.speech.fillFrame(voice, frame);
            voice.encode();
            voice.take();
            Check.due("frame " + frame + " behind reset(2)", Check.handed(voice), row.frames[frame]);
            Check.due("decode() behind reset(2)", voice.decode(), frame + 1);
        }
        Check.due("samples behind reset(2)", Check.hash(0, 160, voice::sample), row.wholeSamples);
    }

    private static void refuses() {
        VoiceFrames voice = used();
        int encoder = Check.encoderHash(voice);
        int[] wrong = {-1, 3, Integer.MIN_VALUE, Integer.MAX_VALUE};
        for (int what : wrong) {
            Check.argument("reset(" + what + ")", () -> voice.reset(what));
        }
        counts("refused resets", voice, 50, 11, 2, 2);
        Check.due("encoder behind refused resets", Check.encoderHash(voice), encoder);
    }

    private static void counts(String what, VoiceFrames voice, int samples, int bytes, int encoded, int decoded) {
        Check.due("samples behind " + what, voice.about(0), samples);
        Check.due("bytes behind " + what, voice.about(1), bytes);
        Check.due("frames encoded behind " + what, voice.about(2), encoded);
        Check.due("frames decoded behind " + what, voice.about(3), decoded);
    }
}

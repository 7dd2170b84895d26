/** Promise 11: reset. */
public final class Promise11ResetTest {
    public static void main(String[] args) {
        Check.test("promise 11: of the encoding (0)", Promise11ResetTest::ofTheEncoding);
        Check.test("promise 11: of the decoding (1)", Promise11ResetTest::ofTheDecoding);
        Check.test("promise 11: of both (2)", Promise11ResetTest::ofBoth);
        Check.test("promise 11: samples and bytes, parameters and the latest samples with 2 alone",
            Promise11ResetTest::atHand);
        Check.test("promise 11: all begins again", Promise11ResetTest::startsOverTheSame);
        Check.test("promise 11: a reset of what is new", Promise11ResetTest::ofNothing);
        Check.test("promise 11: what is not 0, 1 or 2", Promise11ResetTest::wrongNumber);
        Check.end();
    }

    private static void ofTheEncoding() {
        VoiceFrames voice = Twins.busy();
        int decoder = Check.decoderHash(voice);
        voice.reset(0);
        Check.due("encoder", Check.encoderHash(voice), Check.encoderHash(new VoiceFrames()));
        Check.due("decoder", Check.decoderHash(voice), decoder);
        counts(voice, 50, 11, 0, 2);
    }

    private static void ofTheDecoding() {
        VoiceFrames voice = Twins.busy();
        int encoder = Check.encoderHash(voice);
        voice.reset(1);
        Check.due("encoder", Check.encoderHash(voice), encoder);
        Check.due("decoder", Check.decoderHash(voice), Check.decoderHash(new VoiceFrames()));
        Check.due("BACK", voice.state(7, 0), 40);
        counts(voice, 50, 11, 2, 0);
    }

    private static void ofBoth() {
        Twins.same("reset(2) of a busy object", () -> reset(Twins.busy(), 2), Twins::fresh);
        Twins.same("reset(2) of a full object", () -> reset(Twins.full(), 2), Twins::fresh);
    }

    private static void atHand() {
        for (int what = 0; what <= 1; what++) {
            VoiceFrames voice = reset(Twins.busy(), what);
            VoiceFrames twin = Twins.busy();
            Check.due("bytes behind " + what, Check.handed(voice), Check.handed(twin));
            Check.due("parameters behind " + what, Check.hash(0, 76, voice::parameter),
                Check.hash(0, 76, twin::parameter));
            Check.due("samples behind " + what, Check.hash(0, 160, voice::sample), Check.hash(0, 160, twin::sample));
            voice.fill(0, 0, 110);
            Check.due("encode() behind " + what, voice.encode(), what == 0 ? 1 : 3);
        }
        VoiceFrames samples = reset(Twins.busy(), 0);
        samples.fill(1, 2, 110);
        samples.encode();
        VoiceFrames same = new VoiceFrames();
        same.fill(3000, 10, 50);
        same.fill(1, 2, 110);
        same.encode();
        Check.due("the samples at hand", Check.encoderHash(samples), Check.encoderHash(same));
        VoiceFrames voice = reset(Twins.busy(), 2);
        counts(voice, 0, 0, 0, 0);
        Check.due("parameters behind 2", Check.hash(0, 76, voice::parameter), 0);
        Check.due("samples behind 2", Check.hash(0, 160, voice::sample), 0);
        Check.due("hand(0) behind 2", voice.hand(0), VoiceFrames.NONE);
    }

    private static void startsOverTheSame() {
        Golden row = Golden.ROWS[4];
        int[][] resets = {{2}, {0, 1}, {1, 0}};
        for (int[] all : resets) {
            VoiceFrames voice = Twins.spoken(2);
            for (int what : all) {
                voice.reset(what);
            }
            for (int frame = 0; frame < row.frames.length; frame++) {
                row.speech.fillFrame(voice, frame);
                Check.due("encode()", voice.encode(), frame + 1);
                voice.take();
                Check.due("frame " + frame, Check.handed(voice), row.frames[frame]);
                Check.due("decode()", voice.decode(), frame + 1);
            }
            Check.due("samples", Check.hash(0, 160, voice::sample), row.wholeSamples);
        }
    }

    private static void ofNothing() {
        for (int what = 0; what <= 2; what++) {
            int all = what;
            Twins.same("reset(" + what + ") of a new object", () -> reset(Twins.fresh(), all), Twins::fresh);
        }
        Twins.same("reset(2) twice", () -> reset(reset(Twins.busy(), 2), 2), Twins::fresh);
    }

    private static VoiceFrames reset(VoiceFrames voice, int what) {
        voice.reset(what);
        return voice;
    }

    private static void wrongNumber() {
        int[] wrong = {-1, 3, -2, 4, Integer.MIN_VALUE, Integer.MAX_VALUE};
        for (int what : wrong) {
            Twins.refusedByAll("reset(" + what + ")", Twins.ARGUMENT, voice -> voice.reset(what));
        }
    }

    private static void counts(VoiceFrames voice, int samples, int bytes, int encoded, int decoded) {
        Check.due("samples", voice.about(0), samples);
        Check.due("bytes", voice.about(1), bytes);
        Check.due("frames encoded", voice.about(2), encoded);
        Check.due("frames decoded", voice.about(3), decoded);
    }
}

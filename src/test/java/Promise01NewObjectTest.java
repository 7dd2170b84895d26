/** Promise 1: no samples, no bytes; all pasts 0. */
public final class Promise01NewObjectTest {
    public static void main(String[] args) {
        Check.test("promise 1: NONE is -1", () -> Check.due("NONE", VoiceFrames.NONE, -1));
        Check.test("promise 1: no samples", Promise01NewObjectTest::noSamples);
        Check.test("promise 1: no bytes", Promise01NewObjectTest::noBytes);
        Check.test("promise 1: all pasts 0", Promise01NewObjectTest::pastsAreZero);
        Check.test("promise 1: no frame yet", Promise01NewObjectTest::noFrame);
        Check.test("promise 1: every object is new", Promise01NewObjectTest::objectsAreApart);
        Check.end();
    }

    private static void noSamples() {
        Check.due("samples", new VoiceFrames().about(0), 0);
        Check.due("the first put", new VoiceFrames().put(0), 1);
        Check.due("a fill of all 160", new VoiceFrames().fill(0, 0, 160), 160);
        Twins.refused("encode()", Twins.STATE, Twins::fresh, VoiceFrames::encode);
    }

    private static void noBytes() {
        VoiceFrames voice = new VoiceFrames();
        Check.due("bytes", voice.about(1), 0);
        Check.due("hand(0)", voice.hand(0), VoiceFrames.NONE);
        Check.due("decode()", voice.decode(), VoiceFrames.NONE);
        Check.due("the first feed", voice.feed(0, 1), 1);
    }

    private static void pastsAreZero() {
        int[] cells = {8, 8, 120, 120, 8, 8, 3};
        VoiceFrames voice = new VoiceFrames();
        for (int what = 0; what < cells.length; what++) {
            for (int i = 0; i < cells[what]; i++) {
                Check.due("state(" + what + ", " + i + ")", voice.state(what, i), 0);
            }
        }
        Check.due("BACK", voice.state(7, 0), 40);
        Check.due("m of the decoding", voice.state(7, 1), 0);
    }

    private static void noFrame() {
        VoiceFrames voice = new VoiceFrames();
        Check.due("frames encoded", voice.about(2), 0);
        Check.due("frames decoded", voice.about(3), 0);
        for (int i = 0; i < 76; i++) {
            Check.due("parameter(" + i + ")", voice.parameter(i), 0);
        }
        for (int i = 0; i < 160; i++) {
            Check.due("sample(" + i + ")", voice.sample(i), 0);
        }
    }

    private static void objectsAreApart() {
        Twins.same("a new object beside a busy one", () -> {
            VoiceFrames voice = new VoiceFrames();
            Twins.busy();
            Twins.full();
            return voice;
        }, Twins::fresh);
    }
}

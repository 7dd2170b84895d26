/** Promise 13: about. */
public final class Promise13AboutTest {
    public static void main(String[] args) {
        Check.test("promise 13: samples (0)", Promise13AboutTest::samples);
        Check.test("promise 13: bytes at hand (1)", Promise13AboutTest::bytes);
        Check.test("promise 13: frames encoded (2), decoded (3)", Promise13AboutTest::frames);
        Check.test("promise 13: what is not 0 .. 3", Promise13AboutTest::wrongNumber);
        Check.end();
    }

    private static void samples() {
        VoiceFrames voice = new VoiceFrames();
        Check.due("none", voice.about(0), 0);
        voice.put(1);
        Check.due("one", voice.about(0), 1);
        voice.fill(0, 0, 158);
        Check.due("159", voice.about(0), 159);
        voice.put(1);
        Check.due("160", voice.about(0), 160);
        voice.encode();
        Check.due("none behind encode()", voice.about(0), 0);
    }

    private static void bytes() {
        VoiceFrames voice = new VoiceFrames();
        Check.due("none", voice.about(1), 0);
        voice.feed(0, 1);
        Check.due("one", voice.about(1), 1);
        voice.take();
        Check.due("33", voice.about(1), 33);
        voice.decode();
        Check.due("none behind decode()", voice.about(1), 0);
        voice.feed(0, 8);
        voice.decode();
        Check.due("none behind a decode() of 8", voice.about(1), 0);
    }

    private static void frames() {
        VoiceFrames voice = new VoiceFrames();
        for (int frame = 0; frame < 3; frame++) {
            Check.due("encoded", voice.about(2), frame);
            voice.fill(0, 0, 160);
            voice.encode();
        }
        voice.take();
        voice.decode();
        Check.due("encoded", voice.about(2), 3);
        Check.due("decoded", voice.about(3), 1);
        voice.decode();
        Check.due("decoded behind NONE", voice.about(3), 1);
        Check.due("encode() of none throws", Check.thrown(voice::encode), Twins.STATE);
        Check.due("encoded behind a refused encode()", voice.about(2), 3);
    }

    private static void wrongNumber() {
        int[] wrong = {-1, 4, -2, 5, Integer.MIN_VALUE, Integer.MAX_VALUE};
        for (int what : wrong) {
            Twins.refusedByAll("about(" + what + ")", Twins.ARGUMENT, voice -> voice.about(what));
        }
    }
}

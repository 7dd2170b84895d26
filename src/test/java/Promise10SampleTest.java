/** Promise 10: sample. */
public final class Promise10SampleTest {
    public static void main(String[] args) {
        Check.test("promise 10: 0 before any", Promise10SampleTest::beforeAny);
        Check.test("promise 10: sample i of the latest frame decoded", Promise10SampleTest::latest);
        Check.test("promise 10: the latest frame stays", Promise10SampleTest::stays);
        Check.test("promise 10: i is not 0 .. 159", Promise10SampleTest::wrongNumber);
        Check.end();
    }

    private static void beforeAny() {
        VoiceFrames voice = new VoiceFrames();
        voice.fill(-30000, 375, 160);
        voice.encode();
        voice.fill(-30000, 375, 160);
        voice.feed(-1, 8);
        Check.due("decode() of 8", voice.decode(), VoiceFrames.NONE);
        for (int i = 0; i < 160; i++) {
            Check.due("sample(" + i + ")", voice.sample(i), 0);
        }
    }

    /** A frame of zeros, and then another one: m goes on, so that the second one's samples are others. */
    private static void latest() {
        VoiceFrames voice = new VoiceFrames();
        voice.take();
        voice.decode();
        Check.due("sample(0) of the first frame", voice.sample(0), -56);
        Check.due("sample(159) is of m", voice.sample(159), Math.max(-32768, 2 * voice.state(7, 1)) & -8);
        int first = Check.hash(0, 160, voice::sample);
        voice.take();
        voice.decode();
        int second = Check.hash(0, 160, voice::sample);
        Check.due("the second frame's samples are others", first == second ? 1 : 0, 0);
    }

    private static void stays() {
        VoiceFrames voice = new VoiceFrames();
        voice.take();
        voice.decode();
        int heard = Check.hash(0, 160, voice::sample);
        voice.fill(-30000, 375, 160);
        voice.encode();
        voice.feed(0, 8);
        voice.decode();
        voice.reset(0);
        voice.reset(1);
        Check.due("samples", Check.hash(0, 160, voice::sample), heard);
        voice.reset(2);
        Check.due("sample(0) behind reset(2)", voice.sample(0), 0);
    }

    private static void wrongNumber() {
        Check.due("sample(0)", Check.thrown(() -> Twins.full().sample(0)), "nothing");
        Check.due("sample(159)", Check.thrown(() -> Twins.full().sample(159)), "nothing");
        int[] wrong = {-1, 160, -2, 161, Integer.MIN_VALUE, Integer.MAX_VALUE};
        for (int i : wrong) {
            Twins.refusedByAll("sample(" + i + ")", Twins.ARGUMENT, voice -> voice.sample(i));
        }
    }
}

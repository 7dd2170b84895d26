/** Promise 2: put. */
public final class Promise02PutTest {
    public static void main(String[] args) {
        Check.test("promise 2: a sample comes, how many there are", Promise02PutTest::counts);
        Check.test("promise 2: a sample is a number", Promise02PutTest::edgesOfANumber);
        Check.test("promise 2: it is no number", Promise02PutTest::noNumber);
        Check.test("promise 2: there are 160", Promise02PutTest::thereAreAll);
        Check.test("promise 2: no number, and there are 160", Promise02PutTest::bothWrong);
        Check.test("promise 2: a frame gone makes room", Promise02PutTest::roomAgain);
        Check.end();
    }

    private static void counts() {
        VoiceFrames voice = new VoiceFrames();
        for (int i = 1; i <= 160; i++) {
            Check.due("put number " + i, voice.put(i % 2 == 0 ? 32767 : -32768), i);
            Check.due("about(0)", voice.about(0), i);
        }
    }

    /** The last sample of a frame is seen as z, in steps of eight. */
    private static void edgesOfANumber() {
        int[] samples = {-32768, -32767, -32761, -32760, -1, 0, 1, 32759, 32760, 32766, 32767};
        int[] z = {-16384, -16384, -16384, -16380, -4, 0, 0, 16376, 16380, 16380, 16380};
        for (int i = 0; i < samples.length; i++) {
            VoiceFrames voice = new VoiceFrames();
            voice.fill(0, 0, 159);
            Check.due("put(" + samples[i] + ")", voice.put(samples[i]), 160);
            voice.encode();
            Check.due("z behind put(" + samples[i] + ")", voice.state(6, 0), z[i]);
        }
    }

    private static void noNumber() {
        int[] wrong = {-32769, 32768, -32770, 32769, 65535, -65536, Integer.MIN_VALUE, Integer.MAX_VALUE};
        for (int sample : wrong) {
            Twins.refusedByAll("put(" + sample + ")", Twins.ARGUMENT, voice -> voice.put(sample));
        }
    }

    private static void thereAreAll() {
        VoiceFrames voice = new VoiceFrames();
        Check.due("fill of 158", voice.fill(0, 0, 158), 158);
        Check.due("put with 158", voice.put(8), 159);
        Check.due("put with 159", voice.put(8), 160);
        Check.due("put with 160 throws", Check.thrown(() -> voice.put(8)), Twins.STATE);
        Check.due("put with 160 throws again", Check.thrown(() -> voice.put(-8)), Twins.STATE);
        int[] samples = {0, 1, -32768, 32767};
        for (int sample : samples) {
            Twins.refused("put(" + sample + ") with 160", Twins.STATE, Twins::full, v -> v.put(sample));
        }
    }

    private static void bothWrong() {
        Twins.refused("put(32768) with 160", Twins.ARGUMENT, Twins::full, voice -> voice.put(32768));
        Twins.refused("put(-32769) with 160", Twins.ARGUMENT, Twins::full, voice -> voice.put(-32769));
    }

    private static void roomAgain() {
        VoiceFrames voice = Twins.full();
        voice.encode();
        Check.due("put behind encode()", voice.put(1), 1);
        VoiceFrames other = Twins.full();
        other.reset(2);
        Check.due("put behind reset(2)", other.put(1), 1);
    }
}

/** Terms: NUMBERS, shifts and M, where the answers can be told by hand. */
public final class TermsNumbersTest {
    public static void main(String[] args) {
        Check.test("terms: a shift >> rounds down", TermsNumbersTest::shiftsRoundDown);
        Check.test("terms: M(a, b) is CUT((a b + 16384) >> 15)", TermsNumbersTest::mRounds);
        Check.test("terms: z, w, m are 0 at first and go on", TermsNumbersTest::goesOn);
        Check.end();
    }

    /** z is t = (s >> 3) << 2 of the last sample; as the only one that is not 0 it makes w and m, too. */
    private static void shiftsRoundDown() {
        int[] samples = {-32768, -17, -16, -15, -9, -8, -7, -1, 0, 1, 7, 8, 9, 15, 16, 32767};
        int[] t = {-16384, -12, -8, -8, -8, -4, -4, -4, 0, 0, 0, 4, 4, 4, 8, 16380};
        for (int i = 0; i < samples.length; i++) {
            VoiceFrames voice = new VoiceFrames();
            voice.fill(0, 0, 159);
            voice.put(samples[i]);
            voice.encode();
            Check.due("z of " + samples[i], voice.state(6, 0), t[i]);
            Check.due("w of " + samples[i], voice.state(6, 1), t[i] * 32768);
            Check.due("m of " + samples[i], voice.state(6, 2), t[i]);
        }
    }

    /** A PAST of 4 and -4, the PULSES of HEIGHT 0, comes back by each GAIN: 3277, 11469, 21299, 32767. */
    private static void mRounds() {
        int[] up = {0, 1, 3, 4};
        int[] down = {0, -1, -3, -4};
        for (int gain = 0; gain < 4; gain++) {
            Frame frame = new Frame();
            frame.part(0, 40, 0, 0, 0).pulses(0, 4, 3);
            frame.part(1, 40, gain, 1, 0);
            VoiceFrames voice = frame.decoded();
            Check.due("w of 4 by GAIN " + gain, voice.state(3, 0), up[gain]);
            Check.due("w of -4 by GAIN " + gain, voice.state(3, 3), down[gain]);
            Check.due("w of 0 by GAIN " + gain, voice.state(3, 2), 0);
        }
    }

    /** One loud sample, and then a 0: w = 16380 (32735 - 32768) by hand, and m is it, rounded. */
    private static void goesOn() {
        VoiceFrames silent = new VoiceFrames();
        silent.fill(0, 0, 160);
        silent.encode();
        Check.due("w of silence", silent.state(6, 1), 0);
        VoiceFrames inAFrame = new VoiceFrames();
        inAFrame.fill(0, 0, 158);
        inAFrame.put(32767);
        inAFrame.put(0);
        inAFrame.encode();
        Check.due("z", inAFrame.state(6, 0), 0);
        Check.due("w", inAFrame.state(6, 1), -540540);
        Check.due("m", inAFrame.state(6, 2), -16);
        VoiceFrames overFrames = new VoiceFrames();
        overFrames.fill(0, 0, 159);
        overFrames.put(32767);
        overFrames.encode();
        overFrames.fill(0, 0, 160);
        overFrames.encode();
        inAFrame.fill(0, 0, 159);
        inAFrame.put(0);
        inAFrame.encode();
        Check.due("w 160 samples later is not 0 yet", overFrames.state(6, 1) < 0 ? 1 : 0, 1);
        Check.due("w 161 samples later is nearer to 0", inAFrame.state(6, 1) > overFrames.state(6, 1) ? 1 : 0, 1);
    }
}

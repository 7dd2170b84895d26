/** Terms: a FRAME's PARAMETERS and its BYTES. */
public final class TermsFrameTest {
    public static void main(String[] args) {
        Check.test("terms: 76 parameters of so many bits each", TermsFrameTest::bitsOfEach);
        Check.test("terms: each with its highest bit first, in bytes from their highest bits on",
            TermsFrameTest::oneBit);
        Check.test("terms: the four bits 1 1 0 1", TermsFrameTest::fourBits);
        Check.end();
    }

    /** The least and the greatest value of each parameter, with all others at the other end. */
    private static void bitsOfEach() {
        for (int i = 0; i < 76; i++) {
            Frame one = new Frame();
            Frame others = new Frame();
            for (int k = 0; k < 76; k++) {
                int most = (1 << Frame.bitsOf(k)) - 1;
                one.parameters[k] = k == i ? most : 0;
                others.parameters[k] = k == i ? 0 : most;
            }
            due("parameter " + i + " alone", one);
            due("all but parameter " + i, others);
        }
    }

    private static void due(String what, Frame frame) {
        VoiceFrames voice = frame.decoded();
        for (int k = 0; k < 76; k++) {
            Check.due(what + ", parameter(" + k + ")", voice.parameter(k), frame.parameters[k]);
        }
        voice.take();
        int[] bytes = frame.bytes();
        for (int k = 0; k < 33; k++) {
            Check.due(what + ", hand(" + k + ")", voice.hand(k), bytes[k]);
        }
    }

    /** Each of the 260 bits alone, told as a place in the bytes and as a parameter's value. */
    private static void oneBit() {
        int parameter = 0;
        int worth = 32;
        for (int at = 4; at < 264; at++) {
            VoiceFrames voice = new VoiceFrames();
            int[] bytes = new int[33];
            bytes[0] = 0xd0;
            bytes[at / 8] |= 128 >> (at % 8);
            Check.feedAll(voice, bytes);
            Check.due("decode() of bit " + at, voice.decode(), 1);
            for (int k = 0; k < 76; k++) {
                Check.due("parameter(" + k + ") of bit " + at, voice.parameter(k), k == parameter ? worth : 0);
            }
            voice.take();
            Check.due("the byte of bit " + at, voice.hand(at / 8), bytes[at / 8]);
            worth >>= 1;
            if (worth == 0) {
                parameter++;
                worth = parameter < 76 ? 1 << (Frame.bitsOf(parameter) - 1) : 0;
            }
        }
        Check.due("parameters of all bits", parameter, 76);
    }

    private static void fourBits() {
        VoiceFrames voice = new VoiceFrames();
        voice.fill(32767, -400, 160);
        voice.encode();
        voice.take();
        Check.due("the first four bits of a frame encoded", voice.hand(0) >> 4, 13);
        voice.reset(2);
        voice.take();
        Check.due("the first byte before any frame", voice.hand(0), 0xd0);
    }
}

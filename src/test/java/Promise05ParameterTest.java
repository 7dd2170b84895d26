import java.util.Arrays;

/** Promise 5: parameter. */
public final class Promise05ParameterTest {
    private static final int[] MOST = {63, 63, 31, 31, 15, 15, 7, 7};

    public static void main(String[] args) {
        Check.test("promise 5: 0 before any", Promise05ParameterTest::beforeAny);
        Check.test("promise 5: of the latest frame encoded", Promise05ParameterTest::encoded);
        Check.test("promise 5: or decoded", Promise05ParameterTest::decoded);
        Check.test("promise 5: from the least to the greatest of their bits", Promise05ParameterTest::edgesOfBits);
        Check.test("promise 5: bytes that are no frame do not count", Promise05ParameterTest::noFrame);
        Check.test("promise 5: i is not 0 .. 75", Promise05ParameterTest::wrongNumber);
        Check.end();
    }

    private static void beforeAny() {
        VoiceFrames voice = new VoiceFrames();
        voice.fill(20000, -500, 160);
        voice.feed(-1, 8);
        for (int i = 0; i < 76; i++) {
            Check.due("parameter(" + i + ")", voice.parameter(i), 0);
        }
    }

    private static void encoded() {
        VoiceFrames voice = Twins.full();
        voice.encode();
        due(voice);
        VoiceFrames silent = new VoiceFrames();
        silent.fill(7, 0, 160);
        silent.encode();
        due(silent);
        int[] filter = {32, 32, 20, 11, 8, 5, 3, 2};
        int[] part = {40, 0, 0, 0};
        for (int i = 0; i < 76; i++) {
            int place = (i - 8) % 17;
            int want = i < 8 ? filter[i] : place < 4 ? part[place] : 4;
            Check.due("parameter(" + i + ") of silence", silent.parameter(i), want);
        }
    }

    private static void decoded() {
        VoiceFrames voice = Twins.full();
        voice.decode();
        due(voice);
        Check.due("the frame decoded", Check.handed(voice), Golden.ROWS[1].frames[3]);
        voice.encode();
        int first = voice.parameter(0);
        voice.take();
        voice.decode();
        Check.due("parameter(0) of the frame encoded and decoded", voice.parameter(0), first);
    }

    /** The frame's bytes, read by the document's bits, tell each parameter. */
    private static void due(VoiceFrames voice) {
        voice.take();
        int[] bytes = Check.bytes(Check.handed(voice));
        int at = 4;
        for (int i = 0; i < 76; i++) {
            int value = 0;
            for (int most = greatest(i); most > 0; most >>= 1) {
                value = 2 * value + (bytes[at / 8] >> (7 - at % 8) & 1);
                at++;
            }
            Check.due("parameter(" + i + ")", voice.parameter(i), value);
        }
        Check.due("bits", at, 264);
    }

    private static void edgesOfBits() {
        VoiceFrames voice = new VoiceFrames();
        int[] ones = new int[33];
        Arrays.fill(ones, 255);
        ones[0] = 0xdf;
        Check.feedAll(voice, ones);
        Check.due("decode() of ones", voice.decode(), 1);
        for (int i = 0; i < 76; i++) {
            Check.due("parameter(" + i + ") of ones", voice.parameter(i), greatest(i));
        }
        int[] zeros = new int[33];
        zeros[0] = 0xd0;
        Check.feedAll(voice, zeros);
        Check.due("decode() of zeros", voice.decode(), 2);
        for (int i = 0; i < 76; i++) {
            Check.due("parameter(" + i + ") of zeros", voice.parameter(i), 0);
        }
    }

    private static int greatest(int i) {
        if (i < MOST.length) {
            return MOST[i];
        }
        int place = (i - 8) % 17;
        return place == 0 ? 127 : place < 3 ? 3 : place == 3 ? 63 : 7;
    }

    private static void noFrame() {
        VoiceFrames voice = Twins.busy();
        int before = Check.hash(0, 76, voice::parameter);
        Check.due("decode() of 11", voice.decode(), VoiceFrames.NONE);
        Check.due("parameters", Check.hash(0, 76, voice::parameter), before);
    }

    private static void wrongNumber() {
        Check.due("parameter(0)", Twins.full().parameter(0), 24);
        Check.due("parameter(75)", Twins.full().parameter(75), 3);
        int[] wrong = {-1, 76, -2, 77, 160, Integer.MIN_VALUE, Integer.MAX_VALUE};
        for (int i : wrong) {
            Twins.refusedByAll("parameter(" + i + ")", Twins.ARGUMENT, voice -> voice.parameter(i));
        }
    }
}

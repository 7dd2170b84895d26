import java.util.Arrays;

/** Promises 8 and 10, and the decoder's part of 12: decode, sample, state. */
public final class DecodeTest {
    public static void main(String[] args) {
        for (Golden row : Golden.ROWS) {
            knownFrames(row, false, row.wholeSamples, row.wholeState);
            knownFrames(row, true, row.damagedSamples, row.damagedState);
        }
        allHeights();
        backOutsideIsTheOneBefore();
        loudestFrame();
        otherBytesAreGone();
        samples();
        Check.end();
    }

    private static void knownFrames(Golden row, boolean damaged, int samples, int state) {
        VoiceFrames voice = new VoiceFrames();
        for (int frame = 0; frame < row.frames.length; frame++) {
            int[] bytes = Check.bytes(row.frames[frame]);
            for (int i = 1; damaged && i < bytes.length; i++) {
                bytes[i] ^= Speech.mix(row.speech.seed + 100, frame, i) & 255;
            }
            Check.feedAll(voice, bytes);
            Check.due("decode()", voice.decode(), frame + 1);
            Check.due("bytes behind decode()", voice.about(1), 0);
        }
        String name = "speech " + row.speech.seed + (damaged ? ", damaged" : "");
        Check.due(name + ", samples", Check.hash(0, 160, voice::sample), samples);
        Check.due(name + ", state", Check.decoderHash(voice), state);
        Check.due("frames decoded", voice.about(3), row.frames.length);
        Check.due("frames encoded", voice.about(2), 0);
    }

    /** Each row has four HEIGHTs, one a part, with all GRIDs, GAINs and PULSEs. */
    private static void allHeights() {
        heights("d8208422245000029cbb829c52a094e5dc14e55541272ee0a72e57e1b977053977", -276936910, -1631587024);
        heights("d8208422245002029cbb829c52a294e5dc14e55543272ee0a72e57e3b977053977", 805364403, -769503792);
        heights("d8208422245004029cbb829c52a494e5dc14e55545272ee0a72e57e5b977053977", 809077332, 655437896);
        heights("d8208422245006029cbb829c52a694e5dc14e55547272ee0a72e57e7b977053977", -242736590, 933029440);
        heights("d8208422245008029cbb829c52a894e5dc14e55549272ee0a72e57e9b977053977", -1889976475, -2145013280);
        heights("d820842224500a029cbb829c52aa94e5dc14e5554b272ee0a72e57ebb977053977", 2146155076, -1789135008);
        heights("d820842224500c029cbb829c52ac94e5dc14e5554d272ee0a72e57edb977053977", -1549312790, -1292614672);
        heights("d820842224500e029cbb829c52ae94e5dc14e5554f272ee0a72e57efb977053977", 391326443, -857926464);
        heights("d8208422245010029cbb829c52b094e5dc14e55551272ee0a72e57f1b977053977", -234306983, 60716360);
        heights("d8208422245012029cbb829c52b294e5dc14e55553272ee0a72e57f3b977053977", 1460453654, 1349375248);
        heights("d8208422245014029cbb829c52b494e5dc14e55555272ee0a72e57f5b977053977", 2051718449, -1587081584);
        heights("d8208422245016029cbb829c52b694e5dc14e55557272ee0a72e57f7b977053977", 658623465, -2109127232);
        heights("d8208422245018029cbb829c52b894e5dc14e55559272ee0a72e57f9b977053977", -1489671008, 400744680);
        heights("d820842224501a029cbb829c52ba94e5dc14e5555b272ee0a72e57fbb977053977", 106763316, -1352255352);
        heights("d820842224501c029cbb829c52bc94e5dc14e5555d272ee0a72e57fdb977053977", -1882805598, 953358160);
        heights("d820842224501e029cbb829c52be94e5dc14e5555f272ee0a72e57ffb977053977", 1311804973, -523975456);
    }

    private static void heights(String frame, int past, int samples) {
        VoiceFrames voice = new VoiceFrames();
        Check.feedAll(voice, Check.bytes(frame));
        voice.decode();
        Check.due("PAST of " + frame, Check.hash(0, 120, i -> voice.state(3, i)), past);
        Check.due("samples of " + frame, Check.hash(0, 160, voice::sample), samples);
    }

    private static void backOutsideIsTheOneBefore() {
        int[] told = {39, 121, 0, 127, 41, 39, 119, 120, 121, 40, 3};
        int[] used = {40, 40, 40, 40, 41, 41, 119, 120, 120, 40, 40};
        VoiceFrames voice = new VoiceFrames();
        for (int i = 0; i < told.length; i++) {
            Check.feedAll(voice, frameWithBack(told[i]));
            voice.decode();
            Check.due("BACK behind " + told[i], voice.state(7, 0), used[i]);
            Check.due("parameter(59)", voice.parameter(59), told[i]);
        }
    }

    private static int[] frameWithBack(int back) {
        int[] bytes = new int[33];
        bytes[0] = 0xd0;
        for (int part = 0; part < 4; part++) {
            int from = 4 + 36 + 56 * part;
            for (int bit = 0; bit < 7; bit++) {
                int one = (back >> (6 - bit)) & 1;
                bytes[(from + bit) / 8] |= one << (7 - (from + bit) % 8);
            }
        }
        return bytes;
    }

    /** All bits 1: the loudest PULSES upon the loudest look back are CUT. */
    private static void loudestFrame() {
        VoiceFrames voice = new VoiceFrames();
        int[] bytes = new int[33];
        Arrays.fill(bytes, 255);
        bytes[0] = 0xdf;
        Check.feedAll(voice, bytes);
        voice.decode();
        for (int i = 0; i < 120; i++) {
            int place = i % 40;
            Check.due("PAST " + i, voice.state(3, i), place >= 3 && place % 3 == 0 ? 32767 : 0);
        }
    }

    private static void otherBytesAreGone() {
        VoiceFrames voice = new VoiceFrames();
        Check.feedAll(voice, Check.bytes(Golden.ROWS[2].frames[0]));
        voice.decode();
        int state = Check.decoderHash(voice);
        Check.due("decode() of nothing", voice.decode(), VoiceFrames.NONE);
        voice.feed(0xd0, 8);
        Check.due("decode() of 8", voice.decode(), VoiceFrames.NONE);
        Check.due("bytes behind it", voice.about(1), 0);
        for (int mark = 0; mark < 16; mark++) {
            if (mark != 13) {
                int[] bytes = Check.bytes(Golden.ROWS[4].frames[1]);
                bytes[0] = 16 * mark + (bytes[0] & 15);
                Check.feedAll(voice, bytes);
                Check.due("decode() behind mark " + mark, voice.decode(), VoiceFrames.NONE);
                Check.due("bytes behind it", voice.about(1), 0);
            }
        }
        Check.due("state behind other bytes", Check.decoderHash(voice), state);
        Check.due("frames behind other bytes", voice.about(3), 1);
        voice.take();
        Check.due("bytes of the frame before", Check.handed(voice), Golden.ROWS[2].frames[0]);
    }

    private static void samples() {
        VoiceFrames voice = new VoiceFrames();
        int[] wrong = {-1, 160, Integer.MIN_VALUE, Integer.MAX_VALUE};
        for (int i : wrong) {
            Check.argument("sample(" + i + ")", () -> voice.sample(i));
        }
        voice.take();
        voice.decode();
        Check.due("sample(0) of a frame of zeros", voice.sample(0), -56);
        voice.fill(-30000, 375, 160);
        voice.encode();
        Check.due("sample(0) behind encode()", voice.sample(0), -56);
        voice.feed(0, 8);
        voice.decode();
        Check.due("sample(0) behind other bytes", voice.sample(0), -56);
    }
}

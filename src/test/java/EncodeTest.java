import java.util.Arrays;

/** Promises 4 and 5, and the encoder's part of 12: encode, parameter, state. */
public final class EncodeTest {
    private static final int[] MOST = {63, 63, 31, 31, 15, 15, 7, 7};

    public static void main(String[] args) {
        for (Golden row : Golden.ROWS) {
            knownFrames(row);
        }
        silence();
        silenceAfterReset();
        cutOfTheLoudestSample();
        cutOfTheLastSample();
        refuses();
        parameters();
        Check.end();
    }

    private static void knownFrames(Golden row) {
        VoiceFrames voice = new VoiceFrames();
        for (int frame = 0; frame < row.frames.length; frame++) {
            row.speech.fillFrame(voice, frame);
            Check.due("encode()", voice.encode(), frame + 1);
            Check.due("samples behind encode()", voice.about(0), 0);
            voice.take();
            Check.due("speech " + row.speech.seed + " frame " + frame, Check.handed(voice), row.frames[frame]);
        }
        Check.due("speech " + row.speech.seed + " state", Check.encoderHash(voice), row.encoderState);
        Check.due("frames encoded", voice.about(2), row.frames.length);
        Check.due("frames decoded", voice.about(3), 0);
    }

    private static void silence() {
        VoiceFrames voice = new VoiceFrames();
        voice.fill(7, 0, 160);
        voice.encode();
        voice.take();
        Check.due("parameter(0) of silence", voice.parameter(0), 32);
        Check.due("BACK of silence", voice.parameter(8), 40);
        Check.due("GAIN of silence", voice.parameter(9), 0);
        Check.due("GRID of silence", voice.parameter(10), 0);
        Check.due("HEIGHT of silence", voice.parameter(11), 0);
        for (int i = 12; i < 25; i++) {
            Check.due("pulse " + i + " of silence", voice.parameter(i), 4);
        }
        Check.due("samples of 7 are 0", voice.state(6, 1), 0);
    }

    private static void silenceAfterReset() {
        VoiceFrames voice = new VoiceFrames();
        voice.fill(-20000, 250, 160);
        voice.encode();
        voice.reset(0);
        voice.fill(0, 0, 160);
        voice.encode();
        voice.take();
        VoiceFrames silent = new VoiceFrames();
        silent.fill(0, 0, 160);
        silent.encode();
        silent.take();
        Check.due("silence behind sound", Check.handed(voice), Check.handed(silent));
    }

    /** After a long low tone the step up is so great that x, lowered and raised again, is above 32767. */
    private static void cutOfTheLoudestSample() {
        VoiceFrames voice = new VoiceFrames();
        for (int frame = 0; frame < 60; frame++) {
            voice.fill(-32768, 0, 160);
            voice.encode();
        }
        Check.due("z of the low tone", voice.state(6, 0), -16384);
        Check.due("w of the low tone", voice.state(6, 1), -33845);
        Check.due("m of the low tone", voice.state(6, 2), -1);
        voice.fill(-32768, 0, 80);
        voice.fill(32767, 0, 80);
        Check.due("encode() of the step", voice.encode(), 61);
        voice.take();
        Check.due("the step", Check.handed(voice),
            "d4d879d8d950004924924924500049249249245f9ff6dc924924560f51b6b6db6d");
        Check.due("w of the step", voice.state(6, 1), 991435919);
        Check.due("U of the step", voice.state(4, 0), 4208);
    }

    /** The same step as the frame's last sample: it is left as it is, after its CUT, in U. */
    private static void cutOfTheLastSample() {
        VoiceFrames voice = new VoiceFrames();
        for (int frame = 0; frame < 60; frame++) {
            voice.fill(-32768, 0, 160);
            voice.encode();
        }
        voice.fill(-32768, 0, 159);
        voice.put(32767);
        voice.encode();
        Check.due("U of the last step", voice.state(4, 0), 32767);
    }

    private static void refuses() {
        VoiceFrames voice = new VoiceFrames();
        Check.illegalState("encode() of 0", voice::encode);
        voice.fill(12345, -99, 159);
        Check.illegalState("encode() of 159", voice::encode);
        Check.due("samples behind a refused encode()", voice.about(0), 159);
        Check.due("frames behind a refused encode()", voice.about(2), 0);
        voice.put(12345 - 99 * 159);
        Check.due("encode()", voice.encode(), 1);
        VoiceFrames atOnce = new VoiceFrames();
        atOnce.fill(12345, -99, 160);
        atOnce.encode();
        Check.due("state behind a refused encode()", Check.encoderHash(voice), Check.encoderHash(atOnce));
        Check.illegalState("encode() again", voice::encode);
    }

    private static void parameters() {
        VoiceFrames voice = new VoiceFrames();
        int[] wrong = {-1, 76, Integer.MIN_VALUE, Integer.MAX_VALUE};
        for (int i : wrong) {
            Check.argument("parameter(" + i + ")", () -> voice.parameter(i));
        }
        int[] whole = new int[33];
        Arrays.fill(whole, 255);
        whole[0] = 0xdf;
        Check.feedAll(voice, whole);
        voice.decode();
        for (int i = 0; i < 76; i++) {
            Check.due("parameter(" + i + ") of a frame decoded", voice.parameter(i), greatest(i));
        }
        voice.fill(0, 0, 160);
        voice.encode();
        Check.due("parameter(0) of the later frame encoded", voice.parameter(0), 32);
        Check.due("parameter(75) of the later frame encoded", voice.parameter(75), 4);
    }

    private static int greatest(int i) {
        if (i < MOST.length) {
            return MOST[i];
        }
        int place = (i - 8) % 17;
        return place == 0 ? 127 : place < 3 ? 3 : place == 3 ? 63 : 7;
    }
}

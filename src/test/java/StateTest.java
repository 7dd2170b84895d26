/** Promises 12 and 13: state and about. The state's values behind known frames are in EncodeTest and DecodeTest. */
public final class StateTest {
    private static final int[] CELLS = {8, 8, 120, 120, 8, 8, 3, 2};

    public static void main(String[] args) {
        stateRefuses();
        stateOfKnownFrames();
        about();
        Check.end();
    }

    private static void stateRefuses() {
        VoiceFrames voice = new VoiceFrames();
        for (int row = 0; row < CELLS.length; row++) {
            int what = row;
            Check.due("last cell of state(" + what + ")", voice.state(what, CELLS[what] - 1), 0);
            int[] wrong = {-1, CELLS[what], Integer.MIN_VALUE, Integer.MAX_VALUE};
            for (int i : wrong) {
                Check.argument("state(" + what + ", " + i + ")", () -> voice.state(what, i));
            }
        }
        int[] wrong = {-1, 8, Integer.MIN_VALUE, Integer.MAX_VALUE};
        for (int what : wrong) {
            Check.argument("state(" + what + ", 0)", () -> voice.state(what, 0));
        }
    }

    /** The PAST of an encoder and of a decoder of its frames are the same, and so are both filters. */
    private static void stateOfKnownFrames() {
        VoiceFrames voice = new VoiceFrames();
        voice.fill(32767, 1, 160);
        voice.encode();
        Check.due("z", voice.state(6, 0), -16308);
        Check.due("w", voice.state(6, 1), -456014497);
        Check.due("m", voice.state(6, 2), -13916);
        int[] g = {-2458, -5734, -5734, -4916, -3824, -2730, -2622, -1422};
        int[] u = {-1936, -1646, -1070, -696, -487, -389, -331, -279};
        for (int i = 0; i < 8; i++) {
            Check.due("g " + i, voice.state(0, i), g[i]);
            Check.due("U " + i, voice.state(4, i), u[i]);
        }
        voice.take();
        voice.decode();
        for (int i = 0; i < 120; i++) {
            Check.due("PAST " + i, voice.state(3, i), voice.state(2, i));
        }
        for (int i = 0; i < 8; i++) {
            Check.due("g of the decoding " + i, voice.state(1, i), g[i]);
        }
        Check.due("BACK", voice.state(7, 0), 120);
        Check.due("sample(159) is of m", voice.sample(159), (2 * voice.state(7, 1)) & -8);
    }

    private static void about() {
        VoiceFrames voice = new VoiceFrames();
        voice.fill(0, 0, 160);
        voice.encode();
        voice.fill(0, 0, 160);
        voice.encode();
        voice.take();
        voice.decode();
        voice.fill(0, 0, 17);
        voice.feed(0, 5);
        Check.due("samples", voice.about(0), 17);
        Check.due("bytes", voice.about(1), 5);
        Check.due("frames encoded", voice.about(2), 2);
        Check.due("frames decoded", voice.about(3), 1);
        int[] wrong = {-1, 4, Integer.MIN_VALUE, Integer.MAX_VALUE};
        for (int what : wrong) {
            Check.argument("about(" + what + ")", () -> voice.about(what));
        }
    }
}

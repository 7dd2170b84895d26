/** Promise 12: state. */
public final class Promise12StateTest {
    private static final int[] CELLS = {8, 8, 120, 120, 8, 8, 3, 2};

    public static void main(String[] args) {
        Check.test("promise 12: g of the latest filter (0, 1)", Promise12StateTest::filters);
        Check.test("promise 12: its PAST (2, 3), the oldest first", Promise12StateTest::pasts);
        Check.test("promise 12: U (4)", Promise12StateTest::u);
        Check.test("promise 12: V (5), from 0", Promise12StateTest::v);
        Check.test("promise 12: z, w, m (6)", Promise12StateTest::inlet);
        Check.test("promise 12: BACK and m of the decoding (7)", Promise12StateTest::outlet);
        Check.test("promise 12: i is not of the row", Promise12StateTest::wrongCell);
        Check.test("promise 12: there is no such row", Promise12StateTest::wrongRow);
        Check.end();
    }

    /** A ramp up from -32768, but for its first sample, encoded and decoded. */
    private static VoiceFrames ramp() {
        VoiceFrames voice = new VoiceFrames();
        voice.fill(32767, 1, 160);
        voice.encode();
        voice.take();
        voice.decode();
        return voice;
    }

    private static void filters() {
        int[] g = {-2458, -5734, -5734, -4916, -3824, -2730, -2622, -1422};
        VoiceFrames voice = ramp();
        for (int i = 0; i < 8; i++) {
            Check.due("g " + i + " of the encoding", voice.state(0, i), g[i]);
            Check.due("g " + i + " of the decoding", voice.state(1, i), g[i]);
        }
    }

    /** The second part's PULSES are the oldest, those of the last part the newest. */
    private static void pasts() {
        Frame frame = new Frame().part(1, 40, 0, 0, 63).pulses(1, 7).part(2, 40, 0, 1, 0).part(3, 120, 0, 3, 62);
        VoiceFrames voice = frame.pulses(3, 0).decoded();
        Check.due("the oldest cell", voice.state(3, 0), 28671);
        Check.due("the next one", voice.state(3, 1), 0);
        Check.due("the second part's last PULSE", voice.state(3, 36), 28671);
        Check.due("the third part's first cell is w", voice.state(3, 40), 2867);
        Check.due("the third part's first PULSE", voice.state(3, 41), 4);
        Check.due("the newest cell", voice.state(3, 119), -26879);
        VoiceFrames both = ramp();
        int[] cells = {0, 3, 6, 39, 40, 41, 79, 80, 81, 117, 118, 119};
        int[] due = {0, -176, -739, -458, -627, 0, 0, 0, -739, -458, 0, 0};
        for (int i = 0; i < cells.length; i++) {
            Check.due("PAST " + cells[i] + " of the encoding", both.state(2, cells[i]), due[i]);
            Check.due("PAST " + cells[i] + " of the decoding", both.state(3, cells[i]), due[i]);
        }
    }

    private static void u() {
        int[] u = {-1936, -1646, -1070, -696, -487, -389, -331, -279};
        VoiceFrames voice = ramp();
        for (int i = 0; i < 8; i++) {
            Check.due("U " + i, voice.state(4, i), u[i]);
        }
    }

    /** V(0) is the last value that came out of the filter; V(8) is not seen. */
    private static void v() {
        int[] v = {-1875, -1498, -1515, -737, -215, -1026, -421, -115};
        VoiceFrames voice = ramp();
        for (int i = 0; i < 8; i++) {
            Check.due("V " + i, voice.state(5, i), v[i]);
        }
    }

    private static void inlet() {
        VoiceFrames voice = ramp();
        Check.due("z", voice.state(6, 0), -16308);
        Check.due("w", voice.state(6, 1), -456014497);
        Check.due("m", voice.state(6, 2), -13916);
    }

    private static void outlet() {
        VoiceFrames voice = ramp();
        Check.due("BACK", voice.state(7, 0), 120);
        Check.due("m", voice.state(7, 1), -14527);
        Check.due("sample(159) is of m", voice.sample(159), (2 * voice.state(7, 1)) & -8);
    }

    private static void wrongCell() {
        for (int row = 0; row < CELLS.length; row++) {
            int what = row;
            Check.due("state(" + what + ", 0)", Check.thrown(() -> Twins.full().state(what, 0)), "nothing");
            Check.due("its last", Check.thrown(() -> Twins.full().state(what, CELLS[what] - 1)), "nothing");
            int[] wrong = {-1, CELLS[what], CELLS[what] + 1, Integer.MIN_VALUE, Integer.MAX_VALUE};
            for (int i : wrong) {
                Twins.refusedByAll("state(" + what + ", " + i + ")", Twins.ARGUMENT, voice -> voice.state(what, i));
            }
        }
    }

    private static void wrongRow() {
        int[] wrong = {-1, 8, -2, 9, Integer.MIN_VALUE, Integer.MAX_VALUE};
        for (int what : wrong) {
            for (int i = -1; i <= 1; i++) {
                int cell = i;
                Twins.refused("state(" + what + ", " + i + ")", Twins.ARGUMENT, Twins::busy,
                    voice -> voice.state(what, cell));
            }
        }
    }
}

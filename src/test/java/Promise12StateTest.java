/** Promise 12: state. */
public final class Promise12StateTest {
    private static final int[] CELLS = {8, 8, 120, 120, 8, 8, 3, 2};

    public static void main(String[] args) {
        Check.test("promise 12: g of the latest filter (0, 1)", Promise12StateTest::filters);
        Check.test("promise 12: its PAST (2, 3), the oldest first", Promise12StateTest::pasts);
        Check.test("promise 12: U (4)", Promise12StateTest::u);
        Check.test("promise 12: V (5), from 0", Promise12StateTest::v);
        Check.test("promise 12: z, w, m (6)", Promise12StateTest::inlet);
        Check.test("promise 12: BACK and m of the decoding (7)", Promise12StateTest::outlet);
        Check.test("promise 12: i is not of the row", Promise12StateTest::wrongCell);
        Check.test("promise 12: there is no such row", Promise12StateTest::wrongRow);
        Check.end();
    }

    /** A ramp down from the top, encoded and decoded. */
    private static VoiceFrames ramp() {
        VoiceFrames voice = new VoiceFrames();
        voice.fill(32767, 1, 160);
        voice.encode();
        voice.take();
        voice.decode();
        return voice;
    }

    private static void filters() {
        int[] g = {-2458, -5734, -5734, -4916, -3824, -2730, -2622, -1422};
        VoiceFrames voice = ramp();
        for (int i = 0; i < 8; i++) {
            Check.due("g " + i + " of the encoding", voice.state(0, i), g[i]);
            Check.due("g " + i + " of the decoding", voice.state(1, i), g[i]);
        }
    }

    /** The loudest PULSES alone: in each part one stands at GRID + 3 i, so that the places tell what is oldest. */
    private static void pasts() {
        int[] bytes = new int[33];
        bytes[0] = 0xd0;
        int[] grids = {3, 0, 1, 2};
        for (int part = 0; part < 4; part++) {
            set(bytes, 40 + 56 * part, 7, 40);
            set(bytes, 49 + 56 * part, 2, grids[part]);
            set(bytes, 51 + 56 * part, 6, 63);
            for (int i = 0; i < 13; i++) {
                set(bytes, 57 + 56 * part + 3 * i, 3, 7);
            }
        }
        VoiceFrames voice = new VoiceFrames();
        Check.feedAll(voice, bytes);
        voice.decode();
        Check.due("cell 0 is of the second part", voice.state(3, 0), 28671);
        Check.due("cell 1", voice.state(3, 1), 0);
        Check.due("cell 40", voice.state(3, 40) < 28671 ? 1 : 0, 1);
        Check.due("cell 41 is of the third part", voice.state(3, 41) >= 28671 ? 1 : 0, 1);
        Check.due("cell 118 is of the last part", voice.state(3, 118), 28671);
        VoiceFrames both = ramp();
        for (int i = 0; i < 120; i++) {
            Check.due("PAST " + i, both.state(2, i), both.state(3, i));
        }
        Check.due("the oldest", both.state(2, 0), both.state(3, 0));
    }

    private static void set(int[] bytes, int at, int bits, int value) {
        for (int bit = 0; bit < bits; bit++) {
            int one = (value >> (bits - 1 - bit)) & 1;
            bytes[(at + bit) / 8] |= one << (7 - (at + bit) % 8);
        }
    }

    private static void u() {
        int[] u = {-1936, -1646, -1070, -696, -487, -389, -331, -279};
        VoiceFrames voice = ramp();
        for (int i = 0; i < 8; i++) {
            Check.due("U " + i, voice.state(4, i), u[i]);
        }
    }

    /** V(0) is the last value that came out of the filter: m is made of it, and the sample of m. */
    private static void v() {
        VoiceFrames voice = new VoiceFrames();
        voice.take();
        voice.decode();
        Check.due("sample(159)", voice.sample(159), (2 * voice.state(7, 1)) & -8);
        int before = voice.sample(158);
        int m = voice.state(7, 1);
        int least = before / 2 * 28180 / 32768;
        Check.due("m without V(0) is near the one before", Math.abs(m - voice.state(5, 0) - least) < 8 ? 1 : 0, 1);
    }

    private static void inlet() {
        VoiceFrames voice = ramp();
        Check.due("z", voice.state(6, 0), -16308);
        Check.due("w", voice.state(6, 1), -456014497);
        Check.due("m", voice.state(6, 2), -13916);
    }

    private static void outlet() {
        VoiceFrames voice = ramp();
        Check.due("BACK", voice.state(7, 0), 120);
        Check.due("sample(159) is of m", voice.sample(159), (2 * voice.state(7, 1)) & -8);
    }

    private static void wrongCell() {
        for (int row = 0; row < CELLS.length; row++) {
            int what = row;
            Check.due("state(" + what + ", 0)", Check.thrown(() -> Twins.full().state(what, 0)), "nothing");
            Check.due("its last", Check.thrown(() -> Twins.full().state(what, CELLS[what] - 1)), "nothing");
            int[] wrong = {-1, CELLS[what], CELLS[what] + 1, Integer.MIN_VALUE, Integer.MAX_VALUE};
            for (int i : wrong) {
                Twins.refusedByAll("state(" + what + ", " + i + ")", Twins.ARGUMENT, voice -> voice.state(what, i));
            }
        }
    }

    private static void wrongRow() {
        int[] wrong = {-1, 8, -2, 9, Integer.MIN_VALUE, Integer.MAX_VALUE};
        for (int what : wrong) {
            for (int i = -1; i <= 1; i++) {
                int cell = i;
                Twins.refused("state(" + what + ", " + i + ")", Twins.ARGUMENT, Twins::busy,
                    voice -> voice.state(what, cell));
            }
        }
    }
}

import java.util.function.Supplier;

/** Promise 3: fill. */
public final class Promise03FillTest {
    public static void main(String[] args) {
        Check.test("promise 3: n samples come, how many there are", Promise03FillTest::counts);
        Check.test("promise 3: n of 0", Promise03FillTest::nothingComes);
        Check.test("promise 3: v, v + by, v + 2 by and so on", Promise03FillTest::isManyPuts);
        Check.test("promise 3: its lowest 16 bits with a sign", Promise03FillTest::lowestBits);
        Check.test("promise 3: sums beyond 32 bits", Promise03FillTest::greatSums);
        Check.test("promise 3: n is not 0 .. 160", Promise03FillTest::wrongCount);
        Check.test("promise 3: there would be more than 160", Promise03FillTest::tooMany);
        Check.test("promise 3: n is not 0 .. 160, and there would be more", Promise03FillTest::bothWrong);
        Check.end();
    }

    private static void counts() {
        for (int n = 0; n <= 160; n++) {
            VoiceFrames voice = new VoiceFrames();
            Check.due("fill of " + n, voice.fill(5, 5, n), n);
            Check.due("fill of the rest behind " + n, voice.fill(5, 5, 160 - n), 160);
            Check.due("samples", voice.about(0), 160);
        }
    }

    private static void nothingComes() {
        Twins.same("fill of 0 of a new object", () -> filled(Twins.fresh(), 0), Twins::fresh);
        Twins.same("fill of 0 of a busy object", () -> filled(Twins.busy(), 50), Twins::busy);
        Twins.same("fill of 0 of a full object", () -> filled(Twins.full(), 160), Twins::full);
    }

    private static VoiceFrames filled(VoiceFrames voice, int due) {
        Check.due("fill of 0", voice.fill(30000, -7, 0), due);
        return voice;
    }

    private static void isManyPuts() {
        sameAsPut("two rules", -7000, 93, 90);
        sameAsPut("a rule that goes down", 4000, -57, 70);
        sameAsPut("one sample, whatever by is", 123, Integer.MAX_VALUE, 1);
        sameAsPut("two samples", -32768, 65535, 2);
        sameAsPut("all alike", -32768, 0, 160);
    }

    private static void lowestBits() {
        sameAsPut("over the top", 32765, 1, 6);
        sameAsPut("over the bottom", -32766, -1, 6);
        sameAsPut("32768", 32768, 0, 3);
        sameAsPut("-32769", -32769, 0, 3);
        sameAsPut("65535", 65535, 1, 3);
        sameAsPut("-65536", -65536, -1, 3);
        int[] starts = {32767, 32768, -32768, -32769, 65535, 65536, 98303, 98304};
        int[] z = {16380, -16384, -16384, 16380, -4, 0, 16380, -16384};
        for (int i = 0; i < starts.length; i++) {
            VoiceFrames voice = new VoiceFrames();
            voice.fill(0, 0, 159);
            voice.fill(starts[i], 0, 1);
            voice.encode();
            Check.due("z behind fill(" + starts[i] + ", 0, 1)", voice.state(6, 0), z[i]);
        }
    }

    private static void greatSums() {
        sameAsPut("the greatest v", Integer.MAX_VALUE, 1, 160);
        sameAsPut("the least v", Integer.MIN_VALUE, -1, 160);
        sameAsPut("the greatest v and by", Integer.MAX_VALUE, Integer.MAX_VALUE, 160);
        sameAsPut("the least v and by", Integer.MIN_VALUE, Integer.MIN_VALUE, 160);
        sameAsPut("a great by", Integer.MAX_VALUE - 100, 1234567891, 160);
        sameAsPut("a low by", -5, -1987654321, 160);
    }

    private static void sameAsPut(String what, int v, int by, int n) {
        Supplier<VoiceFrames> filled = () -> {
            VoiceFrames voice = new VoiceFrames();
            Check.due(what, voice.fill(v, by, n), n);
            return voice;
        };
        Twins.same(what, filled, () -> {
            VoiceFrames voice = new VoiceFrames();
            for (long i = 0; i < n; i++) {
                long low = Math.floorMod(v + i * by, 65536L);
                voice.put((int) (low >= 32768 ? low - 65536 : low));
            }
            return voice;
        });
    }

    private static void wrongCount() {
        int[] wrong = {-1, 161, -2, 162, -160, 1 << 16, Integer.MIN_VALUE, Integer.MAX_VALUE};
        for (int n : wrong) {
            Twins.refused("fill of " + n, Twins.ARGUMENT, Twins::fresh, voice -> voice.fill(9, 1, n));
            Twins.refused("fill of " + n + " behind 50", Twins.ARGUMENT, Twins::busy, voice -> voice.fill(9, 1, n));
        }
    }

    private static void tooMany() {
        Check.due("fill of 110 behind 50", Twins.busy().fill(30000, 1, 110), 160);
        Twins.refused("fill of 111 behind 50", Twins.STATE, Twins::busy, voice -> voice.fill(30000, 1, 111));
        Twins.refused("fill of 160 behind 50", Twins.STATE, Twins::busy, voice -> voice.fill(30000, 1, 160));
        Twins.refused("fill of 1 behind 160", Twins.STATE, Twins::full, voice -> voice.fill(30000, 1, 1));
        Twins.refused("fill of 160 behind 160", Twins.STATE, Twins::full, voice -> voice.fill(30000, 1, 160));
        VoiceFrames one = new VoiceFrames();
        one.put(0);
        Check.due("fill of 160 behind 1 throws", Check.thrown(() -> one.fill(0, 0, 160)), Twins.STATE);
        Check.due("fill of 159 behind 1", one.fill(0, 0, 159), 160);
    }

    private static void bothWrong() {
        Twins.refused("fill of 161 behind 160", Twins.ARGUMENT, Twins::full, voice -> voice.fill(0, 0, 161));
        Twins.refused("fill of -1 behind 160", Twins.ARGUMENT, Twins::full, voice -> voice.fill(0, 0, -1));
    }
}

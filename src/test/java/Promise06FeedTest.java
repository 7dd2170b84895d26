import java.util.function.Supplier;

/** Promise 6: feed. */
public final class Promise06FeedTest {
    public static void main(String[] args) {
        Check.test("promise 6: n bytes come behind those at hand", Promise06FeedTest::counts);
        Check.test("promise 6: the lowest of w first", Promise06FeedTest::lowestFirst);
        Check.test("promise 6: n of 0", Promise06FeedTest::nothingComes);
        Check.test("promise 6: n is not 0 .. 8", Promise06FeedTest::wrongCount);
        Check.test("promise 6: there would be more than 33", Promise06FeedTest::tooMany);
        Check.test("promise 6: n is not 0 .. 8, and there would be more", Promise06FeedTest::bothWrong);
        Check.test("promise 6: bytes gone make room", Promise06FeedTest::roomAgain);
        Check.end();
    }

    private static void counts() {
        for (int n = 1; n <= 8; n++) {
            VoiceFrames voice = new VoiceFrames();
            for (int count = n; count <= 33; count += n) {
                Check.due("feed of " + n, voice.feed(-1, n), count);
                Check.due("bytes", voice.about(1), count);
                Check.due("the last", voice.hand(count - 1), 255);
                Check.due("behind it", voice.hand(count), VoiceFrames.NONE);
            }
        }
    }

    private static void lowestFirst() {
        long w = 0xf0debc9a78563412L;
        String[] due = {"", "12", "1234", "123456", "12345678", "123456789a", "123456789abc", "123456789abcde",
            "123456789abcdef0"};
        for (int n = 0; n <= 8; n++) {
            VoiceFrames voice = new VoiceFrames();
            voice.feed(0xff, 1);
            voice.feed(w, n);
            voice.feed(0, 1);
            Check.due("feed of " + n, Check.handed(voice), "ff" + due[n] + "00");
        }
        VoiceFrames voice = new VoiceFrames();
        voice.feed(Long.MIN_VALUE, 8);
        voice.feed(Long.MAX_VALUE, 8);
        voice.feed(-256, 2);
        voice.feed(1L << 32, 5);
        Check.due("the ends of a long", Check.handed(voice), "0000000000000080ffffffffffffff7f00ff0000000001");
    }

    private static void nothingComes() {
        Twins.same("feed of 0 of a new object", () -> fed(Twins.fresh(), 0), Twins::fresh);
        Twins.same("feed of 0 of a busy object", () -> fed(Twins.busy(), 11), Twins::busy);
        Twins.same("feed of 0 of a full object", () -> fed(Twins.full(), 33), Twins::full);
    }

    private static VoiceFrames fed(VoiceFrames voice, int due) {
        Check.due("feed of 0", voice.feed(-1, 0), due);
        return voice;
    }

    private static void wrongCount() {
        int[] wrong = {-1, 9, -2, 10, 33, 64, Integer.MIN_VALUE, Integer.MAX_VALUE};
        for (int n : wrong) {
            Twins.refused("feed of " + n, Twins.ARGUMENT, Twins::fresh, voice -> voice.feed(-1, n));
            Twins.refused("feed of " + n + " behind 11", Twins.ARGUMENT, Twins::busy, voice -> voice.feed(0, n));
        }
    }

    private static void tooMany() {
        for (int n = 1; n <= 8; n++) {
            int count = 33 - n;
            int more = n;
            Check.due("feed of " + n + " behind " + count, withBytes(count).get().feed(0, n), 33);
            Twins.refused("feed of " + n + " behind " + (count + 1), Twins.STATE, withBytes(count + 1),
                voice -> voice.feed(0, more));
            Twins.refused("feed of " + n + " behind 33", Twins.STATE, Twins::full, voice -> voice.feed(0, more));
        }
        VoiceFrames voice = withBytes(28).get();
        Check.due("feed of 6 behind 28 throws", Check.thrown(() -> voice.feed(0, 6)), Twins.STATE);
        Check.due("feed of 5 behind 28", voice.feed(0x0504030201L, 5), 33);
        Check.due("hand(27)", voice.hand(27), 0xa5);
        Check.due("hand(28)", voice.hand(28), 1);
        Check.due("hand(32)", voice.hand(32), 5);
    }

    private static Supplier<VoiceFrames> withBytes(int count) {
        return () -> {
            VoiceFrames voice = Twins.spoken(1);
            for (int i = 0; i < count; i++) {
                voice.feed(0xa5, 1);
            }
            return voice;
        };
    }

    private static void bothWrong() {
        Twins.refused("feed of 9 behind 33", Twins.ARGUMENT, Twins::full, voice -> voice.feed(0, 9));
        Twins.refused("feed of -1 behind 33", Twins.ARGUMENT, Twins::full, voice -> voice.feed(0, -1));
    }

    private static void roomAgain() {
        VoiceFrames voice = Twins.full();
        voice.decode();
        Check.due("feed behind decode()", voice.feed(7, 8), 8);
        voice.take();
        Check.due("feed behind take() throws", Check.thrown(() -> voice.feed(7, 1)), Twins.STATE);
        voice.reset(2);
        Check.due("feed behind reset(2)", voice.feed(7, 8), 8);
    }
}

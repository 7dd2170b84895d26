/** Promise 9: hand. */
public final class Promise09HandTest {
    public static void main(String[] args) {
        Check.test("promise 9: byte i at hand", Promise09HandTest::byteAtHand);
        Check.test("promise 9: NONE behind them", Promise09HandTest::behindThem);
        Check.test("promise 9: a byte is 0 .. 255", Promise09HandTest::edgesOfAByte);
        Check.test("promise 9: it never throws", Promise09HandTest::neverThrows);
        Check.test("promise 9: it changes nothing", Promise09HandTest::changesNothing);
        Check.end();
    }

    private static void byteAtHand() {
        VoiceFrames voice = Twins.full();
        int[] bytes = Check.bytes(Golden.ROWS[1].frames[3]);
        for (int i = 0; i < 33; i++) {
            Check.due("hand(" + i + ")", voice.hand(i), bytes[i]);
        }
    }

    private static void behindThem() {
        VoiceFrames voice = new VoiceFrames();
        for (int count = 0; count < 33; count++) {
            Check.due("hand(" + count + ") of " + count, voice.hand(count), VoiceFrames.NONE);
            voice.feed(0, 1);
            Check.due("hand(" + count + ") of " + (count + 1), voice.hand(count), 0);
        }
        Check.due("hand(33)", voice.hand(33), VoiceFrames.NONE);
        Check.due("hand(34)", voice.hand(34), VoiceFrames.NONE);
        voice.decode();
        Check.due("hand(0) behind decode()", voice.hand(0), VoiceFrames.NONE);
    }

    private static void edgesOfAByte() {
        VoiceFrames voice = new VoiceFrames();
        voice.feed(0xff80017f00L, 5);
        int[] due = {0, 127, 1, 128, 255};
        for (int i = 0; i < due.length; i++) {
            Check.due("hand(" + i + ")", voice.hand(i), due[i]);
        }
    }

    private static void neverThrows() {
        int[] beyond = {-1, -2, -33, 33, 34, 1000, Integer.MAX_VALUE, Integer.MIN_VALUE};
        for (int i : beyond) {
            Check.due("hand(" + i + ") of a new object", new VoiceFrames().hand(i), VoiceFrames.NONE);
            Check.due("hand(" + i + ") of a busy object", Twins.busy().hand(i), VoiceFrames.NONE);
            Check.due("hand(" + i + ") of a full object", Twins.full().hand(i), VoiceFrames.NONE);
        }
    }

    private static void changesNothing() {
        Twins.same("hand of a busy object", () -> {
            VoiceFrames voice = Twins.busy();
            voice.hand(10);
            voice.hand(11);
            voice.hand(-1);
            return voice;
        }, Twins::busy);
    }
}

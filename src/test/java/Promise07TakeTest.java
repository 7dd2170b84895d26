import java.util.function.Supplier;

/** Promise 7: take. */
public final class Promise07TakeTest {
    private static final String ZEROS = "d0" + "00".repeat(32);

    public static void main(String[] args) {
        Check.test("promise 7: of 0s before any", Promise07TakeTest::beforeAny);
        Check.test("promise 7: the bytes are those at hand", Promise07TakeTest::replaces);
        Check.test("promise 7: of the latest frame encoded", Promise07TakeTest::encoded);
        Check.test("promise 7: of the latest frame decoded", Promise07TakeTest::decoded);
        Check.test("promise 7: it changes the bytes alone", Promise07TakeTest::nothingElse);
        Check.end();
    }

    private static void beforeAny() {
        VoiceFrames voice = new VoiceFrames();
        Check.due("take()", voice.take(), 33);
        Check.due("bytes of zeros", Check.handed(voice), ZEROS);
        Check.due("bytes", voice.about(1), 33);
        VoiceFrames again = Twins.busy();
        again.reset(2);
        again.take();
        Check.due("bytes of zeros behind reset(2)", Check.handed(again), ZEROS);
    }

    private static void replaces() {
        for (int count = 0; count <= 33; count++) {
            VoiceFrames voice = new VoiceFrames();
            for (int i = 0; i < count; i++) {
                voice.feed(255, 1);
            }
            Check.due("take() with " + count + " bytes", voice.take(), 33);
            Check.due("bytes", voice.about(1), 33);
            Check.due("bytes of zeros", Check.handed(voice), ZEROS);
            Check.due("behind them", voice.hand(33), VoiceFrames.NONE);
        }
        VoiceFrames twice = Twins.full();
        twice.take();
        String first = Check.handed(twice);
        Check.due("take() again", twice.take(), 33);
        Check.due("bytes again", Check.handed(twice), first);
    }

    private static void encoded() {
        Golden row = Golden.ROWS[3];
        VoiceFrames voice = new VoiceFrames();
        for (int frame = 0; frame < row.frames.length; frame++) {
            row.speech.fillFrame(voice, frame);
            voice.encode();
            Check.due("take()", voice.take(), 33);
            Check.due("frame " + frame, Check.handed(voice), row.frames[frame]);
        }
    }

    private static void decoded() {
        VoiceFrames voice = Twins.full();
        voice.decode();
        Check.due("bytes behind decode()", voice.about(1), 0);
        Check.due("take()", voice.take(), 33);
        Check.due("the frame decoded", Check.handed(voice), Golden.ROWS[1].frames[3]);
        voice.encode();
        Check.due("bytes behind encode()", Check.handed(voice), Golden.ROWS[1].frames[3]);
        voice.take();
        String encoded = Check.handed(voice);
        Check.due("the frame encoded later is another", encoded.equals(Golden.ROWS[1].frames[3]) ? 1 : 0, 0);
    }

    private static void nothingElse() {
        Supplier<VoiceFrames> fed = () -> {
            VoiceFrames voice = Twins.spoken(2);
            voice.fill(3000, 10, 50);
            Check.feedAll(voice, Check.bytes(Golden.ROWS[2].frames[1]));
            return voice;
        };
        Twins.same("take() of a busy object", () -> {
            VoiceFrames voice = Twins.busy();
            voice.take();
            return voice;
        }, fed);
    }
}

import java.util.List;
import java.util.function.Consumer;

/** Terms: a call that throws changes nothing. Each promise's test looks at its own calls; here they come together. */
public final class TermsRefusalTest {
    private static final List<Consumer<VoiceFrames>> WRONG_NUMBERS = List.of(
        voice -> voice.put(32768), voice -> voice.put(-32769), voice -> voice.fill(1, 1, -1),
        voice -> voice.fill(1, 1, 161), voice -> voice.parameter(-1), voice -> voice.parameter(76),
        voice -> voice.feed(-1, -1), voice -> voice.feed(-1, 9), voice -> voice.sample(-1),
        voice -> voice.sample(160), voice -> voice.reset(-1), voice -> voice.reset(3),
        voice -> voice.state(-1, 0), voice -> voice.state(8, 0), voice -> voice.state(0, 8),
        voice -> voice.state(2, 120), voice -> voice.state(6, 3), voice -> voice.state(7, 2),
        voice -> voice.about(-1), voice -> voice.about(4));

    public static void main(String[] args) {
        Check.test("terms: a call that throws changes nothing: wrong numbers", TermsRefusalTest::wrongNumbers);
        Check.test("terms: a call that throws changes nothing: wrong times", TermsRefusalTest::wrongTimes);
        Check.test("terms: a call that throws changes nothing: amid a run", TermsRefusalTest::amidARun);
        Check.end();
    }

    private static void wrongNumbers() {
        for (int i = 0; i < WRONG_NUMBERS.size(); i++) {
            Twins.refusedByAll("wrong number " + i, Twins.ARGUMENT, WRONG_NUMBERS.get(i));
        }
    }

    private static void wrongTimes() {
        Twins.refused("put with 160", Twins.STATE, Twins::full, voice -> voice.put(5));
        Twins.refused("fill with 160", Twins.STATE, Twins::full, voice -> voice.fill(5, 5, 1));
        Twins.refused("fill with 50", Twins.STATE, Twins::busy, voice -> voice.fill(5, 5, 111));
        Twins.refused("feed with 33", Twins.STATE, Twins::full, voice -> voice.feed(5, 1));
        Twins.refused("encode with 50", Twins.STATE, Twins::busy, VoiceFrames::encode);
        Twins.refused("encode with none", Twins.STATE, Twins::fresh, VoiceFrames::encode);
    }

    /** Two frames through an object that is called wrongly at every step, and through one that is not. */
    private static void amidARun() {
        Twins.same("the run", () -> run(true), () -> run(false));
    }

    private static VoiceFrames run(boolean wrongly) {
        VoiceFrames voice = new VoiceFrames();
        for (int frame = 0; frame < 2; frame++) {
            disturb(voice, wrongly);
            voice.fill(-20000, 333, 100);
            disturb(voice, wrongly);
            if (wrongly) {
                Check.due("encode() of 100 throws", Check.thrown(voice::encode), Twins.STATE);
                Check.due("fill of 61 throws", Check.thrown(() -> voice.fill(1, 1, 61)), Twins.STATE);
            }
            voice.fill(-5000, 55, 60);
            voice.encode();
            voice.take();
            if (wrongly) {
                Check.due("feed behind take() throws", Check.thrown(() -> voice.feed(1, 1)), Twins.STATE);
            }
            voice.decode();
        }
        disturb(voice, wrongly);
        return voice;
    }

    private static void disturb(VoiceFrames voice, boolean wrongly) {
        if (wrongly) {
            for (Consumer<VoiceFrames> call : WRONG_NUMBERS) {
                Check.due("a wrong number throws", Check.thrown(() -> call.accept(voice)), Twins.ARGUMENT);
            }
        }
    }
}

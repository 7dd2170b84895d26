/** Promise 1: no samples, no bytes, all pasts 0. */
public final class NewObjectTest {
    public static void main(String[] args) {
        VoiceFrames voice = new VoiceFrames();
        Check.due("NONE", VoiceFrames.NONE, -1);
        for (int what = 0; what < 4; what++) {
            Check.due("about(" + what + ")", voice.about(what), 0);
        }
        Check.due("hand(0)", voice.hand(0), VoiceFrames.NONE);
        for (int i = 0; i < 76; i++) {
            Check.due("parameter(" + i + ")", voice.parameter(i), 0);
        }
        for (int i = 0; i < 160; i++) {
            Check.due("sample(" + i + ")", voice.sample(i), 0);
        }
        pastsAreEmpty();
        objectsAreApart();
        Check.end();
    }

    private static void pastsAreEmpty() {
        int[] cells = {8, 8, 120, 120, 8, 8, 3};
        VoiceFrames voice = new VoiceFrames();
        for (int what = 0; what < cells.length; what++) {
            for (int i = 0; i < cells[what]; i++) {
                Check.due("state(" + what + ", " + i + ")", voice.state(what, i), 0);
            }
        }
        Check.due("state(7, 0)", voice.state(7, 0), 40);
        Check.due("state(7, 1)", voice.state(7, 1), 0);
    }

    private static void objectsAreApart() {
        VoiceFrames one = new VoiceFrames();
        VoiceFrames other = new VoiceFrames();
        one.fill(-20000, 250, 160);
        one.encode();
        one.take();
        one.decode();
        Check.due("another object's encoder", Check.encoderHash(other), Check.encoderHash(new VoiceFrames()));
        Check.due("another object's decoder", Check.decoderHash(other), Check.decoderHash(new VoiceFrames()));
        Check.due("another object's parameter(0)", other.parameter(0), 0);
        Check.due("another object's frames", other.about(2) + other.about(3), 0);
    }
}

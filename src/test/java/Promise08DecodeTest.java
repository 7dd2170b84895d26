import java.util.function.Supplier;

/** Promise 8: decode. */
public final class Promise08DecodeTest {
    public static void main(String[] args) {
        Check.test("promise 8: known frames", Promise08DecodeTest::knownFrames);
        Check.test("promise 8: how many frames were decoded", Promise08DecodeTest::counts);
        Check.test("promise 8: the bytes are gone", Promise08DecodeTest::bytesAreGone);
        Check.test("promise 8: they are not 33", Promise08DecodeTest::notAll);
        Check.test("promise 8: the first four bits are others", Promise08DecodeTest::otherBits);
        Check.test("promise 8: the encoding stays", Promise08DecodeTest::encodingStays);
        Check.end();
    }

    private static void knownFrames() {
        for (Golden row : Golden.ROWS) {
            known(row, false, row.wholeSamples, row.wholeState);
            known(row, true, row.damagedSamples, row.damagedState);
        }
    }

    private static void known(Golden row, boolean damaged, int samples, int state) {
        VoiceFrames voice = new VoiceFrames();
        for (int frame = 0; frame < row.frames.length; frame++) {
            int[] bytes = Check.bytes(row.frames[frame]);
            for (int i = 1; damaged && i < bytes.length; i++) {
                bytes[i] ^= Speech.mix(row.speech.seed + 100, frame, i) & 255;
            }
            Check.feedAll(voice, bytes);
            Check.due("decode()", voice.decode(), frame + 1);
        }
        String name = "speech " + row.speech.seed + (damaged ? ", damaged" : "");
        Check.due(name + ", samples", Check.hash(0, 160, voice::sample), samples);
        Check.due(name + ", state", Check.decoderHash(voice), state);
    }

    /** Three calls a frame, up to an object's 510th call; a decode() that answers NONE is none of them. */
    private static void counts() {
        VoiceFrames voice = new VoiceFrames();
        for (int frame = 1; frame <= 170; frame++) {
            voice.take();
            Check.due("decode()", voice.decode(), frame);
            Check.due("frames decoded", voice.about(3), frame);
        }
        VoiceFrames other = Twins.full();
        Check.due("decode()", other.decode(), 2);
        Check.due("decode() of none", other.decode(), VoiceFrames.NONE);
        other.take();
        Check.due("decode() behind NONE", other.decode(), 3);
        Check.due("frames encoded", other.about(2), 1);
    }

    private static void bytesAreGone() {
        VoiceFrames voice = Twins.full();
        Check.due("decode() of 33", voice.decode(), 2);
        Check.due("bytes", voice.about(1), 0);
        Check.due("hand(0)", voice.hand(0), VoiceFrames.NONE);
        Check.due("hand(32)", voice.hand(32), VoiceFrames.NONE);
        Check.due("the next feed", voice.feed(-1, 8), 8);
    }

    private static void notAll() {
        for (int count = 0; count <= 32; count++) {
            int bytes = count;
            none("decode() of " + count, () -> {
                VoiceFrames voice = Twins.spoken(1);
                int[] frame = Check.bytes(Golden.ROWS[4].frames[1].substring(0, 2 * bytes));
                Check.feedAll(voice, frame);
                return voice;
            });
        }
        Twins.same("decode() of 11 with 50 samples at hand", () -> {
            VoiceFrames voice = Twins.busy();
            Check.due("decode() of 11", voice.decode(), VoiceFrames.NONE);
            return voice;
        }, () -> {
            VoiceFrames voice = Twins.spoken(2);
            voice.fill(3000, 10, 50);
            return voice;
        });
    }

    private static void otherBits() {
        for (int mark = 0; mark < 16; mark++) {
            if (mark != 13) {
                none("decode() behind the bits of " + mark, marked(mark));
            }
        }
        VoiceFrames voice = marked(13).get();
        Check.due("decode() behind the bits of 13", voice.decode(), 2);
        Check.due("parameter(0)", voice.parameter(0), 0x1c);
    }

    private static Supplier<VoiceFrames> marked(int mark) {
        return () -> {
            VoiceFrames voice = Twins.spoken(1);
            int[] bytes = Check.bytes(Golden.ROWS[4].frames[1]);
            bytes[0] = 16 * mark + (bytes[0] & 15);
            Check.feedAll(voice, bytes);
            return voice;
        };
    }

    /** The bytes are gone, and nothing else has changed. */
    private static void none(String what, Supplier<VoiceFrames> made) {
        Twins.same(what, () -> {
            VoiceFrames voice = made.get();
            Check.due(what, voice.decode(), VoiceFrames.NONE);
            return voice;
        }, () -> Twins.spoken(1));
    }

    private static void encodingStays() {
        VoiceFrames voice = Twins.full();
        int state = Check.encoderHash(voice);
        voice.decode();
        Check.due("state of the encoding", Check.encoderHash(voice), state);
        Check.due("samples at hand", voice.about(0), 160);
        Check.due("frames encoded", voice.about(2), 1);
        Check.due("encode()", voice.encode(), 2);
    }
}

import java.util.ArrayList;
import java.util.List;
import java.util.function.Consumer;
import java.util.function.Supplier;

/**
 * Whether two objects can be told apart by any call. An object has 512 calls and the whole view of it takes more, so
 * each part of the view is read from a twin of its own, made by the same calls.
 */
final class Twins {
    static final String ARGUMENT = "IllegalArgumentException";
    static final String STATE = "IllegalStateException";

    private static final int[] CELLS = {8, 8, 120, 120, 8, 8, 3, 2};

    private Twins() {
    }

    /** Nothing was ever called. */
    static VoiceFrames fresh() {
        return new VoiceFrames();
    }

    /** Two frames encoded and decoded, then 50 samples and 11 bytes at hand. */
    static VoiceFrames busy() {
        VoiceFrames voice = spoken(2);
        voice.fill(3000, 10, 50);
        voice.feed(-1, 8);
        voice.feed(0x7f8001, 3);
        return voice;
    }

    /** One frame encoded and decoded, then all 160 samples and all 33 bytes at hand. */
    static VoiceFrames full() {
        VoiceFrames voice = spoken(1);
        Golden.ROWS[1].speech.fillFrame(voice, 3);
        Check.feedAll(voice, Check.bytes(Golden.ROWS[1].frames[3]));
        return voice;
    }

    static VoiceFrames spoken(int frames) {
        VoiceFrames voice = new VoiceFrames();
        for (int frame = 0; frame < frames; frame++) {
            Golden.ROWS[2].speech.fillFrame(voice, frame);
            voice.encode();
            voice.take();
            voice.decode();
        }
        return voice;
    }

    /** The call throws, and nothing has changed by it. */
    static void refused(String what, String exception, Supplier<VoiceFrames> made, Consumer<VoiceFrames> call) {
        same(what, () -> {
            VoiceFrames voice = made.get();
            Check.due(what + " throws", Check.thrown(() -> call.accept(voice)), exception);
            return voice;
        }, made);
    }

    /** The call throws whatever there was before it, and nothing has changed by it. */
    static void refusedByAll(String what, String exception, Consumer<VoiceFrames> call) {
        refused(what + " of a new object", exception, Twins::fresh, call);
        refused(what + " of a busy object", exception, Twins::busy, call);
        refused(what + " of a full object", exception, Twins::full, call);
    }

    static void same(String what, Supplier<VoiceFrames> one, Supplier<VoiceFrames> other) {
        for (int view = 0; view < 5; view++) {
            String seen = view(view, one.get());
            Check.due(what + ", view " + view, seen, view(view, other.get()));
        }
    }

    private static String view(int view, VoiceFrames voice) {
        List<Integer> seen = new ArrayList<>();
        switch (view) {
            case 0: counts(voice, seen); break;
            case 1: goesOn(voice, seen); break;
            case 2: cells(voice, 2, seen); break;
            case 3: cells(voice, 3, seen); break;
            default: samplesAtHand(voice, seen); break;
        }
        return seen.toString();
    }

    private static void counts(VoiceFrames voice, List<Integer> seen) {
        for (int what = 0; what < 4; what++) {
            seen.add(voice.about(what));
        }
        for (int i = 0; i < 34; i++) {
            seen.add(voice.hand(i));
        }
        for (int i = 0; i < 76; i++) {
            seen.add(voice.parameter(i));
        }
        for (int i = 0; i < 160; i++) {
            seen.add(voice.sample(i));
        }
    }

    private static void goesOn(VoiceFrames voice, List<Integer> seen) {
        for (int what = 0; what < CELLS.length; what++) {
            if (what != 2 && what != 3) {
                cells(voice, what, seen);
            }
        }
    }

    private static void cells(VoiceFrames voice, int what, List<Integer> seen) {
        for (int i = 0; i < CELLS[what]; i++) {
            seen.add(voice.state(what, i));
        }
    }

    /** The samples at hand can be seen by their frame alone. */
    private static void samplesAtHand(VoiceFrames voice, List<Integer> seen) {
        voice.fill(-9000, 77, 160 - voice.about(0));
        seen.add(voice.encode());
        for (int i = 0; i < 76; i++) {
            seen.add(voice.parameter(i));
        }
        cells(voice, 0, seen);
        cells(voice, 4, seen);
        cells(voice, 6, seen);
    }
}

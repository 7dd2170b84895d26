import java.util.function.IntUnaryOperator;

/** Runs named tests, counts wrong answers and prints each; a test's main ends with exit code 1 if there was one. */
final class Check {
    private static int wrong = 0;
    private static int tests = 0;
    private static String name = "";

    private Check() {
    }

    interface Call {
        void run();
    }

    /** One test, named after the promise or the term that it is about. */
    static void test(String promise, Call body) {
        name = promise;
        tests++;
        try {
            body.run();
        } catch (RuntimeException e) {
            tell("threw " + e);
        }
    }

    static void due(String what, long got, long want) {
        if (got != want) {
            tell(what + " answered " + got + ", due is " + want);
        }
    }

    static void due(String what, String got, String want) {
        if (!got.equals(want)) {
            tell(what + " answered " + got + ", due is " + want);
        }
    }

    static void end() {
        System.out.println(tests + " tests, " + wrong + " wrong answers");
        System.exit(wrong == 0 && tests > 0 ? 0 : 1);
    }

    /** The name of the exception that a call throws. */
    static String thrown(Call call) {
        try {
            call.run();
            return "nothing";
        } catch (RuntimeException e) {
            return e.getClass().getSimpleName();
        }
    }

    static int hash(int start, int count, IntUnaryOperator answer) {
        int hash = start;
        for (int i = 0; i < count; i++) {
            hash = 31 * hash + answer.applyAsInt(i);
        }
        return hash;
    }

    static int encoderHash(VoiceFrames voice) {
        int hash = hash(0, 8, i -> voice.state(0, i));
        hash = hash(hash, 120, i -> voice.state(2, i));
        hash = hash(hash, 8, i -> voice.state(4, i));
        return hash(hash, 3, i -> voice.state(6, i));
    }

    static int decoderHash(VoiceFrames voice) {
        int hash = hash(0, 8, i -> voice.state(1, i));
        hash = hash(hash, 120, i -> voice.state(3, i));
        hash = hash(hash, 8, i -> voice.state(5, i));
        return hash(hash, 2, i -> voice.state(7, i));
    }

    /** The bytes at hand, as hexadecimal digits. */
    static String handed(VoiceFrames voice) {
        StringBuilder text = new StringBuilder();
        int count = voice.about(1);
        for (int i = 0; i < count; i++) {
            text.append(String.format("%02x", voice.hand(i)));
        }
        return text.toString();
    }

    static int[] bytes(String hex) {
        int[] bytes = new int[hex.length() / 2];
        for (int i = 0; i < bytes.length; i++) {
            bytes[i] = Integer.parseInt(hex.substring(2 * i, 2 * i + 2), 16);
        }
        return bytes;
    }

    static void feedAll(VoiceFrames voice, int[] bytes) {
        for (int at = 0; at < bytes.length; at += 8) {
            int n = Math.min(8, bytes.length - at);
            long w = 0;
            for (int i = 0; i < n; i++) {
                w |= (long) bytes[at + i] << (8 * i);
            }
            voice.feed(w, n);
        }
    }

    private static void tell(String what) {
        wrong++;
        System.out.println(name + ": " + what);
    }
}

import java.util.function.IntSupplier;

/**
 * Runs of calls of every kind, drawn by a rule that is always the same: ordinary calls and refused ones, resets amid
 * frames, bytes of other frames and of none. Each run's answers come together to one hash.
 */
public final class RunsTest {
    private static final int MOST_CALLS = 512;
    private static final int LONGEST_TURN = 24;
    private static final int REFUSED_NUMBER = -100001;
    private static final int REFUSED_TIME = -100002;
    private static final int[] CELLS = {8, 8, 120, 120, 8, 8, 3, 2};
    private static final int[] DUE = {
        716380614, 1478928884, -1419747708, -1678427646, 1631134270, 1213962484, -75366719, 269541305,
        -762760832, -942464070, 1872092710, 96953172, -1133407230, 1972404230, 463106405, -1097420797,
        815179328, 1123710669, -1318319512, -1883715279, -1280390199, -1438282169, -183878410, -455591768,
        2001496997, -673155145, 989683065, -698294412, 1209743910, 167367323, -1675796269, -695708964,
        -803405007, -1501596262, 1116532428, -1922438466, 692198402, -655629436, -571960363, -2107629170,
        2104306560, 1202843900, -2056023860, -2126399811, -1473701020, 1342929089, 662176440, 2056565516
    };

    private final VoiceFrames voice = new VoiceFrames();
    private int chance;
    private int calls = 0;
    private int hash = 0;

    private RunsTest(int seed) {
        chance = seed;
    }

    public static void main(String[] args) {
        Check.test("promises 1 to 13: runs of calls of every kind", RunsTest::allRuns);
        Check.end();
    }

    private static void allRuns() {
        for (int i = 0; i < DUE.length; i++) {
            Check.due("run " + (i + 1), new RunsTest(i + 1).run(), DUE[i]);
        }
    }

    private int run() {
        while (calls + LONGEST_TURN <= MOST_CALLS) {
            turn(next(8));
            look();
        }
        return hash;
    }

    private void turn(int kind) {
        switch (kind) {
            case 0: case 1: case 2: encodeAFrame(); break;
            case 3: decodeTheSame(); break;
            case 4: decodeAnother(); break;
            case 5: callStrangely(); break;
            case 6: resetOrNot(); break;
            default: call(voice::decode);
        }
    }

    private void encodeAFrame() {
        int left = 160 - call(() -> voice.about(0));
        int v = spread();
        int by = spread();
        int first = next(left + 1);
        call(() -> voice.fill(v, by, first));
        int sample = spread();
        call(() -> voice.put(sample));
        int later = spread();
        int laterBy = spread() >> next(8);
        call(() -> voice.fill(later, laterBy, Math.max(0, left - first - 1)));
        call(voice::encode);
    }

    private void decodeTheSame() {
        call(voice::take);
        call(voice::decode);
    }

    private void decodeAnother() {
        call(voice::decode);
        for (int i = 0; i < 5; i++) {
            long w = 0;
            for (int b = 0; b < 8; b++) {
                w = (w << 8) | next(256);
            }
            long fed = i == 0 ? (w & ~0xf0) | (firstBits() << 4) : w;
            int n = i < 4 ? 8 : 1;
            call(() -> voice.feed(fed, n));
        }
        call(voice::decode);
    }

    private int firstBits() {
        return next(8) != 0 ? 13 : next(16);
    }

    private void callStrangely() {
        int sample = spread();
        call(() -> voice.put(sample));
        int count = next(165) - 2;
        int v = spread();
        int by = spread();
        call(() -> voice.fill(v, by, count));
        call(voice::encode);
        if (next(3) == 0) {
            call(voice::take);
        }
        int w = spread();
        int n = next(11) - 1;
        call(() -> voice.feed(w, n));
    }

    private void resetOrNot() {
        int what = next(4) == 0 ? next(3) : next(2) * 4 - 1;
        call(() -> {
            voice.reset(what);
            return 0;
        });
    }

    private void look() {
        for (int i = 0; i < 6; i++) {
            int what = next(10) - 1;
            int cells = what >= 0 && what < CELLS.length ? CELLS[what] : 1;
            int cell = next(cells + 2) - 1;
            call(() -> voice.state(what, cell));
        }
        for (int i = 0; i < 2; i++) {
            int parameter = next(78) - 1;
            call(() -> voice.parameter(parameter));
            int sample = next(162) - 1;
            call(() -> voice.sample(sample));
            int place = next(35) - 1;
            call(() -> voice.hand(place));
            int what = next(6) - 1;
            call(() -> voice.about(what));
        }
    }

    private int call(IntSupplier called) {
        int answer = answer(called);
        calls++;
        hash = 31 * hash + answer;
        return answer;
    }

    private static int answer(IntSupplier called) {
        try {
            return called.getAsInt();
        } catch (IllegalArgumentException e) {
            return REFUSED_NUMBER;
        } catch (IllegalStateException e) {
            return REFUSED_TIME;
        }
    }

    /** 0 .. bound - 1. */
    private int next(int bound) {
        chance = (chance * 1103515245 + 12345) & 0x7fffffff;
        return (chance >>> 12) % bound;
    }

    /** A number below or above 0, small as often as great, at times beyond the NUMBERS. */
    private int spread() {
        int reach = 1 << next(17);
        return next(2 * reach + 1) - reach;
    }
}

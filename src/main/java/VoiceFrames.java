import java.util.Arrays;

/**
 * Speech in frames of 160 samples as 33 bytes and back. All rows are made with the object and used again, so that
 * no call makes another object. The names A, B, C, D, F, G, H, R, LEAST and MOST are the document's tables.
 */
public final class VoiceFrames {
    public static final int NONE = -1;

    private static final int FRAME = 160;
    private static final int PART = 40;
    private static final int PARTS = 4;
    private static final int REACH = 120;
    private static final int NEAREST_BACK = 40;
    private static final int ORDER = 8;
    private static final int PULSES = 13;
    private static final int PART_PARAMETERS = 17;
    private static final int PARAMETERS = 76;
    private static final int BYTES = 33;
    private static final int BYTES_A_FEED = 8;
    private static final int MARK = 13;
    private static final int MARK_BITS = 4;
    private static final int PULSE_BITS = 3;
    private static final int LEAST_NUMBER = -32768;
    private static final int MOST_NUMBER = 32767;

    private static final int[] FILTER_BITS = {6, 6, 5, 5, 4, 4, 3, 3};
    private static final int[] PART_BITS = {7, 2, 2, 6};
    private static final int[] LEAST = {-32, -32, -16, -16, -8, -8, -4, -4};
    private static final int[] B = {0, 0, 2048, -2560, 94, -1792, -341, -1144};

    private final int[] samples;
    private final int[] bytes;
    private final int[] parameters;
    private final int[] heard;
    private final Encoder encoder;
    private final Decoder decoder;
    private int sampleCount;
    private int byteCount;

    public VoiceFrames() {
        samples = new int[FRAME];
        bytes = new int[BYTES];
        parameters = new int[PARAMETERS];
        heard = new int[FRAME];
        encoder = new Encoder();
        decoder = new Decoder();
        sampleCount = 0;
        byteCount = 0;
    }

    public int put(int sample) throws IllegalArgumentException, IllegalStateException {
        if (sample < LEAST_NUMBER || sample > MOST_NUMBER) {
            throw new IllegalArgumentException("a sample is -32768 .. 32767");
        }
        if (sampleCount >= FRAME) {
            throw new IllegalStateException("there are 160 samples");
        }
        samples[sampleCount] = sample;
        sampleCount++;
        return sampleCount;
    }

    public int fill(int v, int by, int n) throws IllegalArgumentException, IllegalStateException {
        if (n < 0 || n > FRAME) {
            throw new IllegalArgumentException("n is 0 .. 160");
        }
        if (sampleCount + n > FRAME) {
            throw new IllegalStateException("there would be more than 160 samples");
        }
        for (int i = 0; i < n; i++) {
            // Java's wrap-around leaves the lowest 16 bits right for any v and by.
            samples[sampleCount + i] = (short) (v + i * by);
        }
        sampleCount += n;
        return sampleCount;
    }

    public int encode() throws IllegalStateException {
        if (sampleCount != FRAME) {
            throw new IllegalStateException("there are not 160 samples");
        }
        encoder.describe(samples, parameters);
        sampleCount = 0;
        return encoder.frames;
    }

    public int parameter(int i) throws IllegalArgumentException {
        if (i < 0 || i >= PARAMETERS) {
            throw new IllegalArgumentException("i is 0 .. 75");
        }
        return parameters[i];
    }

    public int feed(long w, int n) throws IllegalArgumentException, IllegalStateException {
        if (n < 0 || n > BYTES_A_FEED) {
            throw new IllegalArgumentException("n is 0 .. 8");
        }
        if (byteCount + n > BYTES) {
            throw new IllegalStateException("there would be more than 33 bytes");
        }
        for (int i = 0; i < n; i++) {
            bytes[byteCount + i] = (int) (w >> (8 * i)) & 255;
        }
        byteCount += n;
        return byteCount;
    }

    public int take() {
        pack();
        byteCount = BYTES;
        return byteCount;
    }

    public int decode() {
        boolean whole = byteCount == BYTES && bytes[0] >> MARK_BITS == MARK;
        byteCount = 0;
        if (!whole) {
            return NONE;
        }
        unpack();
        decoder.speak(parameters, heard);
        return decoder.frames;
    }

    public int hand(int i) {
        return i >= 0 && i < byteCount ? bytes[i] : NONE;
    }

    public int sample(int i) throws IllegalArgumentException {
        if (i < 0 || i >= FRAME) {
            throw new IllegalArgumentException("i is 0 .. 159");
        }
        return heard[i];
    }

    public void reset(int what) throws IllegalArgumentException {
        if (what < 0 || what > 2) {
            throw new IllegalArgumentException("what is 0 .. 2");
        }
        if (what != 1) {
            encoder.forget();
        }
        if (what != 0) {
            decoder.forget();
        }
        if (what == 2) {
            sampleCount = 0;
            byteCount = 0;
            Arrays.fill(parameters, 0);
            Arrays.fill(heard, 0);
        }
    }

    public int state(int what, int i) throws IllegalArgumentException {
        if (i < 0 || i >= stateCells(what)) {
            throw new IllegalArgumentException("there is no such cell of the state");
        }
        switch (what) {
            case 0: return encoder.filter.g[i];
            case 1: return decoder.filter.g[i];
            case 2: return encoder.past.cells[i];
            case 3: return decoder.past.cells[i];
            case 4: return encoder.u[i];
            case 5: return decoder.v[i];
            case 6: return encoder.inlet.goingOn(i);
            default: return i == 0 ? decoder.back : decoder.echo;
        }
    }

    public int about(int what) throws IllegalArgumentException {
        switch (what) {
            case 0: return sampleCount;
            case 1: return byteCount;
            case 2: return encoder.frames;
            case 3: return decoder.frames;
            default: throw new IllegalArgumentException("what is 0 .. 3");
        }
    }

    private static int stateCells(int what) {
        switch (what) {
            case 0: case 1: case 4: case 5: return ORDER;
            case 2: case 3: return REACH;
            case 6: return 3;
            case 7: return 2;
            default: return 0;
        }
    }

    private static int bitsOf(int parameter) {
        if (parameter < ORDER) {
            return FILTER_BITS[parameter];
        }
        int place = (parameter - ORDER) % PART_PARAMETERS;
        return place < PART_BITS.length ? PART_BITS[place] : PULSE_BITS;
    }

    private void pack() {
        Arrays.fill(bytes, 0);
        bytes[0] = MARK << MARK_BITS;
        int place = MARK_BITS;
        for (int i = 0; i < PARAMETERS; i++) {
            for (int bit = bitsOf(i) - 1; bit >= 0; bit--) {
                int one = (parameters[i] >> bit) & 1;
                bytes[place >> 3] |= one << (7 - (place & 7));
                place++;
            }
        }
    }

    private void unpack() {
        int place = MARK_BITS;
        for (int i = 0; i < PARAMETERS; i++) {
            int value = 0;
            for (int bit = bitsOf(i) - 1; bit >= 0; bit--) {
                int one = (bytes[place >> 3] >> (7 - (place & 7))) & 1;
                value = 2 * value + one;
                place++;
            }
            parameters[i] = value;
        }
    }

    /** The document's arithmetic. Factors are NUMBERS, so that no product leaves an int. */
    private static final class Numbers {
        static int cut(int value) {
            return value < LEAST_NUMBER ? LEAST_NUMBER : value > MOST_NUMBER ? MOST_NUMBER : value;
        }

        static int rounded(int a, int b) {
            return cut((a * b + 16384) >> 15);
        }

        static int floored(int a, int b) {
            return cut((a * b) >> 15);
        }

        static int size(int value) {
            return cut(value < 0 ? -value : value);
        }

        static int withSignOf(int signed, int size) {
            return signed < 0 ? -size : size;
        }

        static int norm(int value) {
            int shifts = 0;
            for (int v = value; shifts < 30 && v < 1 << 30; v <<= 1) {
                shifts++;
            }
            return shifts;
        }

        static int greatestSize(int[] row, int first, int step, int count) {
            int greatest = 0;
            for (int i = 0; i < count; i++) {
                int size = size(row[first + step * i]);
                greatest = size > greatest ? size : greatest;
            }
            return greatest;
        }
    }

    /** The way of the samples into the encoding: no constant share, and the high tones raised. */
    private static final class Inlet {
        private static final long LEAST_INT = -2147483648L;
        private static final long MOST_INT = 2147483647L;

        private int last;
        private int level;
        private int echo;

        void smooth(int[] samples, int[] x) {
            for (int i = 0; i < FRAME; i++) {
                x[i] = next(samples[i]);
            }
        }

        int goingOn(int i) {
            return i == 0 ? last : i == 1 ? level : echo;
        }

        void forget() {
            last = 0;
            level = 0;
            echo = 0;
        }

        private int next(int sample) {
            int t = (sample >> 3) << 2;
            long jump = (t - last) * 32768L;
            last = t;
            int high = level >> 15;
            int low = level - high * 32768;
            level = nearestInt(high * 32735L + jump + Numbers.rounded(low, 32735));
            int e = Numbers.cut(nearestInt(level + 16384L) >> 15);
            int raised = Numbers.cut(e + Numbers.rounded(echo, -28180));
            echo = e;
            return raised;
        }

        private static int nearestInt(long value) {
            long floor = value < LEAST_INT ? LEAST_INT : value;
            return (int) (floor > MOST_INT ? MOST_INT : floor);
        }
    }

    /** CORRELATION and REFLECTION: the FILTER numbers of a frame. */
    private static final class Prediction {
        private static final int[] A = {20480, 20480, 20480, 20480, 13964, 15360, 8534, 9036};
        private static final int[] MOST = {31, 31, 15, 15, 7, 7, 3, 3};

        private final int[] y;
        private final int[] sums;
        private final int[] p;
        private final int[] q;
        private final int[] r;

        Prediction() {
            y = new int[FRAME];
            sums = new int[ORDER + 1];
            p = new int[ORDER + 1];
            q = new int[ORDER + 1];
            r = new int[ORDER];
        }

        void predict(int[] x, int[] parameters) {
            lower(x);
            correlate();
            reflect();
            for (int j = 0; j < ORDER; j++) {
                parameters[j] = filterNumber(j, bent(r[j]));
            }
        }

        private void lower(int[] x) {
            int greatest = Numbers.greatestSize(x, 0, 1, FRAME);
            int f = greatest == 0 ? 0 : 4 - Numbers.norm(greatest << 16);
            for (int i = 0; i < FRAME; i++) {
                if (f > 0) {
                    y[i] = Numbers.rounded(x[i], 16384 >> (f - 1));
                    x[i] = Numbers.cut(y[i] << f);
                } else {
                    y[i] = x[i];
                }
            }
        }

        private void correlate() {
            for (int k = 0; k <= ORDER; k++) {
                // SIZE of y is 2048 at most, so that 160 squares twice stay below 2^31.
                int sum = 0;
                for (int i = k; i < FRAME; i++) {
                    sum += y[i] * y[i - k];
                }
                sums[k] = 2 * sum;
            }
        }

        private void reflect() {
            Arrays.fill(r, 0);
            if (sums[0] == 0) {
                return;
            }
            int n = Numbers.norm(sums[0]);
            for (int k = 0; k <= ORDER; k++) {
                p[k] = (sums[k] << n) >> 16;
                q[k] = p[k];
            }
            for (int j = 1; j <= ORDER; j++) {
                if (p[0] < Numbers.size(p[1])) {
                    return;
                }
                r[j - 1] = reflection(p[1], p[0]);
                fold(j, r[j - 1]);
            }
        }

        private static int reflection(int top, int bottom) {
            if (top == 0 || bottom <= 0) {
                return 0;
            }
            int share = Numbers.size(top) * 32768 / bottom;
            int most = share > MOST_NUMBER ? MOST_NUMBER : share;
            return top > 0 ? -most : most;
        }

        private void fold(int j, int by) {
            p[0] = Numbers.cut(p[0] + Numbers.rounded(p[1], by));
            for (int i = 1; i <= ORDER - j; i++) {
                p[i] = Numbers.cut(p[i + 1] + Numbers.rounded(q[i], by));
                q[i] = Numbers.cut(q[i] + Numbers.rounded(p[i + 1], by));
            }
        }

        private static int bent(int reflection) {
            int h = Numbers.size(reflection);
            int size = h < 22118 ? h >> 1 : h < 31130 ? h - 11059 : (h - 26112) * 4;
            return Numbers.withSignOf(reflection, size);
        }

        private static int filterNumber(int j, int bent) {
            int scaled = Numbers.cut(Numbers.floored(A[j], bent) + B[j]);
            int number = Numbers.cut(scaled + 256) >> 9;
            int low = number < LEAST[j] ? LEAST[j] : number;
            return (low > MOST[j] ? MOST[j] : low) - LEAST[j];
        }
    }

    /** THE FILTER of a frame, which goes over from the frame before in four stretches of samples. */
    private static final class Filter {
        private static final int[] C = {13107, 13107, 13107, 13107, 19223, 17476, 31454, 29708};
        private static final int[] ENDS = {13, 27, 40, 160};

        private final int[] g;
        private final int[] before;
        private final int[] r;

        Filter() {
            g = new int[ORDER];
            before = new int[ORDER];
            r = new int[ORDER];
        }

        void learn(int[] parameters) {
            for (int j = 0; j < ORDER; j++) {
                before[j] = g[j];
                int wide = Numbers.cut(parameters[j] + LEAST[j]) * 1024;
                g[j] = Numbers.cut(2 * Numbers.rounded(C[j], Numbers.cut(wide - 2 * B[j])));
            }
        }

        void shape(int stretch) {
            for (int j = 0; j < ORDER; j++) {
                r[j] = straight(between(stretch, before[j], g[j]));
            }
        }

        void forget() {
            Arrays.fill(g, 0);
        }

        private static int between(int stretch, int h, int g) {
            int quarters = Numbers.cut((h >> 2) + (g >> 2));
            switch (stretch) {
                case 0: return Numbers.cut(quarters + (h >> 1));
                case 1: return Numbers.cut((h >> 1) + (g >> 1));
                case 2: return Numbers.cut(quarters + (g >> 1));
                default: return g;
            }
        }

        private static int straight(int bent) {
            int k = Numbers.size(bent);
            int size = k < 11059 ? 2 * k : k < 20070 ? k + 11059 : Numbers.cut((k >> 2) + 26112);
            return Numbers.withSignOf(bent, size);
        }
    }

    /** The PAST, with room behind it for the frame under way; its part p begins at from(p). */
    private static final class Past {
        private static final int[] G = {3277, 11469, 21299, 32767};

        private final int[] cells;
        private final int[] w;

        Past() {
            cells = new int[REACH + FRAME];
            w = new int[PART];
        }

        static int from(int part) {
            return REACH + PART * part;
        }

        void look(int part, int back, int gain) {
            for (int k = 0; k < PART; k++) {
                w[k] = Numbers.rounded(G[gain], cells[from(part) + k - back]);
            }
        }

        void add(int part, int[] pulses) {
            for (int k = 0; k < PART; k++) {
                cells[from(part) + k] = Numbers.cut(pulses[k] + w[k]);
            }
        }

        void endFrame() {
            System.arraycopy(cells, FRAME, cells, 0, REACH);
        }

        void forget() {
            Arrays.fill(cells, 0);
        }
    }

    /** BACK and GAIN: where in the PAST a part is found again, and how loud. */
    private static final class Search {
        private static final int[] D = {6554, 16384, 26214};

        private final int[] low;
        private int back;
        private int gain;

        Search() {
            low = new int[PART];
        }

        void find(int[] d, int part, Past past) {
            int from = Past.from(part);
            int f = lower(d, PART * part);
            int best = 0;
            back = NEAREST_BACK;
            for (int n = NEAREST_BACK; n <= REACH; n++) {
                int sum = likeness(past.cells, from - n);
                if (sum > best) {
                    best = sum;
                    back = n;
                }
            }
            gain = gainOf((2 * best) >> (6 - f), power(past.cells, from - back));
        }

        private int lower(int[] d, int first) {
            int greatest = Numbers.greatestSize(d, first, 1, PART);
            int norm = greatest == 0 ? 6 : Numbers.norm(greatest << 16);
            int f = norm > 6 ? 0 : 6 - norm;
            for (int k = 0; k < PART; k++) {
                low[k] = d[first + k] >> f;
            }
            return f;
        }

        private int likeness(int[] cells, int at) {
            // SIZE of low is 512 at most, so that twice this sum stays below 2^31.
            int sum = 0;
            for (int k = 0; k < PART; k++) {
                sum += low[k] * cells[at + k];
            }
            return sum;
        }

        private static int power(int[] cells, int at) {
            int sum = 0;
            for (int k = 0; k < PART; k++) {
                int eighth = cells[at + k] >> 3;
                sum += eighth * eighth;
            }
            return 2 * sum;
        }

        private static int gainOf(int t, int v) {
            if (t == 0) {
                return 0;
            }
            if (t >= v) {
                return 3;
            }
            int n = Numbers.norm(v);
            int top = (t << n) >> 16;
            int whole = (v << n) >> 16;
            for (int i = 0; i < D.length; i++) {
                if (top <= Numbers.floored(whole, D[i])) {
                    return i;
                }
            }
            return 3;
        }
    }

    /** GRID and HEIGHT: every third value of what the PAST could not tell. */
    private static final class Thinning {
        private static final int[] H = {-134, -374, 0, 2054, 5741, 8192, 5741, 2054, 0, -374, -134};
        private static final int EDGE = 5;
        private static final int GRIDS = 4;

        private final int[] e;
        private final int[] x;
        private int grid;
        private int height;

        Thinning() {
            // The five cells at both ends stay 0: e beyond the part.
            e = new int[PART + 2 * EDGE];
            x = new int[PART];
        }

        void thin(int[] d, int part, int[] w) {
            for (int k = 0; k < PART; k++) {
                e[EDGE + k] = Numbers.cut(d[PART * part + k] - w[k]);
            }
            for (int k = 0; k < PART; k++) {
                x[k] = filtered(k);
            }
            grid = loudestGrid();
            height = heightOf(Numbers.greatestSize(x, grid, 3, PULSES));
        }

        private int filtered(int k) {
            int sum = 4096;
            for (int i = 0; i < H.length; i++) {
                sum += H[i] * e[k + i];
            }
            return Numbers.cut(sum >> 13);
        }

        private int loudestGrid() {
            int loudest = 0;
            int best = 0;
            for (int at = 0; at < GRIDS; at++) {
                int sum = 0;
                for (int i = 0; i < PULSES; i++) {
                    int quarter = x[at + 3 * i] >> 2;
                    sum += quarter * quarter;
                }
                if (sum > best) {
                    best = sum;
                    loudest = at;
                }
            }
            return loudest;
        }

        private static int heightOf(int greatest) {
            int steps = 0;
            for (int i = 0; i <= 5; i++) {
                steps += greatest >> (9 + i) > 0 ? 1 : 0;
            }
            return (greatest >> (steps + 5)) + 8 * steps;
        }
    }

    /** The PULSES of a part, told and made again by its HEIGHT. */
    private static final class Pulses {
        private static final int[] R = {29128, 26215, 23832, 21846, 20165, 18725, 17476, 16384};
        private static final int[] F = {18431, 20479, 22527, 24575, 26623, 28671, 30719, 32767};

        private final int[] row;
        private int shift;
        private int step;

        Pulses() {
            row = new int[PART];
        }

        void scaleBy(int height) {
            int e = height > 15 ? (height >> 3) - 1 : 0;
            int n = height - 8 * e;
            if (n == 0) {
                e = -4;
                n = 15;
            }
            for (int i = 0; i < 3 && n <= 7; i++) {
                n = 2 * n + 1;
                e--;
            }
            shift = 6 - e;
            step = n - 8;
        }

        int told(int x) {
            // HEIGHT is of the greatest x, so that x << shift is a NUMBER still.
            return (Numbers.floored(x << shift, R[step]) >> 12) + 4;
        }

        void makeAgain(int[] parameters, int at) {
            int grid = parameters[at + 2];
            scaleBy(parameters[at + 3]);
            Arrays.fill(row, 0);
            for (int i = 0; i < PULSES; i++) {
                row[grid + 3 * i] = made(parameters[at + 4 + i]);
            }
        }

        private int made(int pulse) {
            int half = shift == 0 ? 0 : 1 << (shift - 1);
            int wide = Numbers.rounded(F[step], (2 * pulse - 7) * 4096);
            return Numbers.cut(wide + half) >> shift;
        }
    }

    /** ENCODING, with all of it that goes on from frame to frame. */
    private static final class Encoder {
        private final Inlet inlet;
        private final Prediction prediction;
        private final Filter filter;
        private final Past past;
        private final Search search;
        private final Thinning thinning;
        private final Pulses pulses;
        private final int[] x;
        private final int[] u;
        private int frames;

        Encoder() {
            inlet = new Inlet();
            prediction = new Prediction();
            filter = new Filter();
            past = new Past();
            search = new Search();
            thinning = new Thinning();
            pulses = new Pulses();
            x = new int[FRAME];
            u = new int[ORDER];
        }

        void describe(int[] samples, int[] parameters) {
            inlet.smooth(samples, x);
            prediction.predict(x, parameters);
            filter.learn(parameters);
            takeAway();
            for (int part = 0; part < PARTS; part++) {
                describePart(part, parameters);
            }
            past.endFrame();
            frames++;
        }

        void forget() {
            inlet.forget();
            filter.forget();
            past.forget();
            Arrays.fill(u, 0);
            frames = 0;
        }

        private void takeAway() {
            int k = 0;
            for (int stretch = 0; stretch < Filter.ENDS.length; stretch++) {
                filter.shape(stretch);
                for (; k < Filter.ENDS[stretch]; k++) {
                    x[k] = left(x[k]);
                }
            }
        }

        private int left(int value) {
            int d = value;
            int o = value;
            for (int j = 0; j < ORDER; j++) {
                int r = filter.r[j];
                int before = u[j];
                u[j] = o;
                o = Numbers.cut(before + Numbers.rounded(r, d));
                d = Numbers.cut(d + Numbers.rounded(r, before));
            }
            return d;
        }

        private void describePart(int part, int[] parameters) {
            int at = ORDER + PART_PARAMETERS * part;
            search.find(x, part, past);
            past.look(part, search.back, search.gain);
            thinning.thin(x, part, past.w);
            parameters[at] = search.back;
            parameters[at + 1] = search.gain;
            parameters[at + 2] = thinning.grid;
            parameters[at + 3] = thinning.height;
            pulses.scaleBy(thinning.height);
            for (int i = 0; i < PULSES; i++) {
                parameters[at + 4 + i] = pulses.told(thinning.x[thinning.grid + 3 * i]);
            }
            pulses.makeAgain(parameters, at);
            past.add(part, pulses.row);
        }
    }

    /** DECODING, with all of it that goes on from frame to frame. */
    private static final class Decoder {
        private final Filter filter;
        private final Past past;
        private final Pulses pulses;
        private final int[] v;
        private int back;
        private int echo;
        private int frames;

        Decoder() {
            filter = new Filter();
            past = new Past();
            pulses = new Pulses();
            v = new int[ORDER + 1];
            back = NEAREST_BACK;
        }

        void speak(int[] parameters, int[] heard) {
            for (int part = 0; part < PARTS; part++) {
                rebuildPart(part, parameters);
            }
            filter.learn(parameters);
            giveBack(heard);
            past.endFrame();
            frames++;
        }

        void forget() {
            filter.forget();
            past.forget();
            Arrays.fill(v, 0);
            back = NEAREST_BACK;
            echo = 0;
            frames = 0;
        }

        private void rebuildPart(int part, int[] parameters) {
            int at = ORDER + PART_PARAMETERS * part;
            int told = parameters[at];
            if (told >= NEAREST_BACK && told <= REACH) {
                back = told;
            }
            pulses.makeAgain(parameters, at);
            past.look(part, back, parameters[at + 1]);
            past.add(part, pulses.row);
        }

        private void giveBack(int[] heard) {
            int k = 0;
            for (int stretch = 0; stretch < Filter.ENDS.length; stretch++) {
                filter.shape(stretch);
                for (; k < Filter.ENDS[stretch]; k++) {
                    heard[k] = spoken(past.cells[Past.from(0) + k]);
                }
            }
        }

        private int spoken(int value) {
            int s = value;
            for (int j = ORDER; j >= 1; j--) {
                int r = filter.r[j - 1];
                s = Numbers.cut(s - Numbers.rounded(r, v[j - 1]));
                v[j] = Numbers.cut(v[j - 1] + Numbers.rounded(r, s));
            }
            v[0] = s;
            echo = Numbers.cut(s + Numbers.rounded(echo, 28180));
            return Numbers.cut(2 * echo) & -8;
        }
    }
}

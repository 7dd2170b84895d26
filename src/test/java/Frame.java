/** A frame's 76 parameters, and its 33 bytes by the document's bits. A new one is as quiet as can be. */
final class Frame {
    static final int[] BITS = {6, 6, 5, 5, 4, 4, 3, 3};
    private static final int[] PART_BITS = {7, 2, 2, 6, 3, 3, 3, 3, 3, 3, 3, 3, 3, 3, 3, 3, 3};

    final int[] parameters = new int[76];

    Frame() {
        for (int part = 0; part < 4; part++) {
            part(part, 40, 0, 0, 0);
        }
    }

    static int bitsOf(int i) {
        return i < 8 ? BITS[i] : PART_BITS[(i - 8) % 17];
    }

    /** The eight FILTER numbers. */
    Frame filter(int... numbers) {
        System.arraycopy(numbers, 0, parameters, 0, 8);
        return this;
    }

    Frame part(int part, int back, int gain, int grid, int height) {
        int at = 8 + 17 * part;
        parameters[at] = back;
        parameters[at + 1] = gain;
        parameters[at + 2] = grid;
        parameters[at + 3] = height;
        return pulses(part, 4);
    }

    /** The PULSES of a part, over and over. */
    Frame pulses(int part, int... pulses) {
        for (int i = 0; i < 13; i++) {
            parameters[12 + 17 * part + i] = pulses[i % pulses.length];
        }
        return this;
    }

    int[] bytes() {
        int[] bytes = new int[33];
        bytes[0] = 0xd0;
        int at = 4;
        for (int i = 0; i < 76; i++) {
            for (int bit = bitsOf(i) - 1; bit >= 0; bit--) {
                bytes[at / 8] |= ((parameters[i] >> bit) & 1) << (7 - at % 8);
                at++;
            }
        }
        return bytes;
    }

    void decode(VoiceFrames voice) {
        Check.feedAll(voice, bytes());
        voice.decode();
    }

    VoiceFrames decoded() {
        VoiceFrames voice = new VoiceFrames();
        decode(voice);
        return voice;
    }
}

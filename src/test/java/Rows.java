/**
 * Known answers at an edge of the document. They were made by a second writing of the document, in C++, that told
 * which values an input meets, and by libgsm 1.0.22 wherever that says the same as the document.
 */
final class Rows {
    private Rows() {
    }

    /** The signal's last frame, and the encoder's state behind it. */
    static void encoded(String edge, String signal, String frame, int state) {
        VoiceFrames voice = Signal.encoded(signal);
        voice.take();
        Check.due(edge + " (" + signal + "), the frame", Check.handed(voice), frame);
        Check.due(edge + " (" + signal + "), the state", Check.encoderHash(voice), state);
    }

    /** The samples of the last of some frames, and the decoder's state behind it. */
    static void decoded(String edge, String frames, int samples, int state) {
        VoiceFrames voice = new VoiceFrames();
        for (String frame : frames.split(" ")) {
            Check.feedAll(voice, Check.bytes(frame));
            voice.decode();
        }
        Check.due(edge + " (" + frames + "), the samples", Check.hash(0, 160, voice::sample), samples);
        Check.due(edge + " (" + frames + "), the state", Check.decoderHash(voice), state);
    }
}

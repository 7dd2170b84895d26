/** Terms: PULSES MADE AGAIN, and the new PAST. */
public final class TermsPulsesTest {
    /** Of each HEIGHT 0 .. 63 its PULSES 0 .. 7, made again by the document's formula. */
    private static final int[][] MADE = {
        {-28, -20, -12, -4, 4, 12, 20, 28},
        {-56, -40, -24, -8, 8, 24, 40, 56},
        {-84, -60, -36, -12, 12, 36, 60, 84},
        {-112, -80, -48, -16, 16, 48, 80, 112},
        {-140, -100, -60, -20, 20, 60, 100, 140},
        {-168, -120, -72, -24, 24, 72, 120, 168},
        {-196, -140, -84, -28, 28, 84, 140, 196},
        {-224, -160, -96, -32, 32, 96, 160, 224},
        {-252, -180, -108, -36, 36, 108, 180, 252},
        {-280, -200, -120, -40, 40, 120, 200, 280},
        {-308, -220, -132, -44, 44, 132, 220, 308},
        {-336, -240, -144, -48, 48, 144, 240, 336},
        {-364, -260, -156, -52, 52, 156, 260, 364},
        {-392, -280, -168, -56, 56, 168, 280, 392},
        {-420, -300, -180, -60, 60, 180, 300, 420},
        {-448, -320, -192, -64, 64, 192, 320, 448},
        {-504, -360, -216, -72, 72, 216, 360, 504},
        {-560, -400, -240, -80, 80, 240, 400, 560},
        {-616, -440, -264, -88, 88, 264, 440, 616},
        {-672, -480, -288, -96, 96, 288, 480, 672},
        {-728, -520, -312, -104, 104, 312, 520, 728},
        {-784, -560, -336, -112, 112, 336, 560, 784},
        {-840, -600, -360, -120, 120, 360, 600, 840},
        {-896, -640, -384, -128, 128, 384, 640, 896},
        {-1008, -720, -432, -144, 144, 432, 720, 1008},
        {-1120, -800, -480, -160, 160, 480, 800, 1120},
        {-1232, -880, -528, -176, 176, 528, 880, 1232},
        {-1344, -960, -576, -192, 192, 576, 960, 1344},
        {-1456, -1040, -624, -208, 208, 624, 1040, 1456},
        {-1568, -1120, -672, -224, 224, 672, 1120, 1568},
        {-1680, -1200, -720, -240, 240, 720, 1200, 1680},
        {-1792, -1280, -768, -256, 256, 768, 1280, 1792},
        {-2016, -1440, -864, -288, 288, 864, 1440, 2016},
        {-2240, -1600, -960, -320, 320, 960, 1600, 2240},
        {-2464, -1760, -1056, -352, 352, 1056, 1760, 2464},
        {-2688, -1920, -1152, -384, 384, 1152, 1920, 2688},
        {-2912, -2080, -1248, -416, 416, 1248, 2080, 2912},
        {-3136, -2240, -1344, -448, 448, 1344, 2240, 3136},
        {-3360, -2400, -1440, -480, 480, 1440, 2400, 3360},
        {-3584, -2560, -1536, -512, 512, 1536, 2560, 3584},
        {-4032, -2880, -1728, -576, 576, 1728, 2880, 4032},
        {-4480, -3200, -1920, -640, 640, 1920, 3200, 4480},
        {-4928, -3520, -2112, -704, 704, 2112, 3520, 4928},
        {-5376, -3840, -2304, -768, 768, 2304, 3840, 5376},
        {-5824, -4160, -2496, -832, 832, 2496, 4160, 5824},
        {-6272, -4480, -2688, -896, 896, 2688, 4480, 6272},
        {-6720, -4800, -2880, -960, 960, 2880, 4800, 6720},
        {-7168, -5120, -3072, -1024, 1024, 3072, 5120, 7168},
        {-8063, -5759, -3456, -1152, 1152, 3456, 5760, 8064},
        {-8959, -6399, -3840, -1280, 1280, 3840, 6400, 8960},
        {-9855, -7039, -4224, -1408, 1408, 4224, 7040, 9856},
        {-10751, -7679, -4608, -1536, 1536, 4608, 7680, 10752},
        {-11647, -8319, -4992, -1664, 1664, 4992, 8320, 11648},
        {-12543, -8959, -5376, -1792, 1792, 5376, 8960, 12544},
        {-13439, -9599, -5760, -1920, 1920, 5760, 9600, 13440},
        {-14335, -10239, -6144, -2048, 2048, 6144, 10240, 14336},
        {-16127, -11519, -6912, -2304, 2304, 6912, 11519, 16127},
        {-17919, -12799, -7680, -2560, 2560, 7680, 12799, 17919},
        {-19711, -14079, -8448, -2816, 2816, 8448, 14079, 19711},
        {-21503, -15359, -9216, -3072, 3072, 9216, 15359, 21503},
        {-23295, -16639, -9984, -3328, 3328, 9984, 16639, 23295},
        {-25087, -17919, -10752, -3584, 3584, 10752, 17919, 25087},
        {-26879, -19199, -11520, -3840, 3840, 11520, 19199, 26879},
        {-28671, -20479, -12288, -4096, 4096, 12288, 20479, 28671},
    };

    public static void main(String[] args) {
        Check.test("terms, PULSES MADE AGAIN: every HEIGHT and PULSE", TermsPulsesTest::everyHeight);
        Check.test("terms, PULSES MADE AGAIN: at GRID + 3 i, others 0", TermsPulsesTest::everyGrid);
        Check.test("terms, the new PAST: what was is 40 farther back", TermsPulsesTest::fartherBack);
        Check.test("terms, the new PAST: 120 cells, and no more", TermsPulsesTest::oldestIsGone);
        Check.test("terms, the new PAST: these and w, CUT", TermsPulsesTest::loudestFrame);
        Check.test("terms, PULSES MADE AGAIN: CUT(M(F(N), (2 PULSE - 7) 4096) + 2^(Z - 1)) >> Z",
            TermsPulsesTest::tableF);
        Check.test("terms, PULSES MADE AGAIN: the new PAST: these and w, CUT", TermsPulsesTest::cutOfThePast);
        Check.end();
    }

    /** The last part alone is loud; those before it are of HEIGHT 0, of which GAIN 0 leaves nothing. */
    private static void everyHeight() {
        for (int height = 0; height < 64; height++) {
            Frame frame = new Frame().part(3, 40, 0, height % 4, height).pulses(3, 0, 1, 2, 3, 4, 5, 6, 7);
            VoiceFrames voice = frame.decoded();
            for (int i = 0; i < 13; i++) {
                int cell = 80 + height % 4 + 3 * i;
                Check.due("PULSE " + i % 8 + " of HEIGHT " + height, voice.state(3, cell), MADE[height][i % 8]);
            }
        }
    }

    private static void everyGrid() {
        for (int grid = 0; grid < 4; grid++) {
            VoiceFrames voice = new Frame().part(3, 40, 0, grid, 63).pulses(3, 7).decoded();
            for (int k = 0; k < 40; k++) {
                boolean there = k >= grid && (k - grid) % 3 == 0 && (k - grid) / 3 < 13;
                Check.due("cell " + k + " by GRID " + grid, voice.state(3, 80 + k), there ? 28671 : 0);
            }
        }
    }

    private static void fartherBack() {
        for (int loud = 1; loud < 4; loud++) {
            Frame frame = new Frame();
            for (int part = 0; part < 4; part++) {
                frame.part(part, 120, 0, 0, part == loud ? 63 : 0).pulses(part, part == loud ? 7 : 4);
            }
            VoiceFrames voice = frame.decoded();
            for (int i = 0; i < 120; i++) {
                int due = i % 40 > 36 || i % 40 % 3 != 0 ? 0 : i / 40 == loud - 1 ? 28671 : 4;
                Check.due("cell " + i + ", part " + loud + " being loud", voice.state(3, i), due);
            }
        }
    }

    /** The first part's PULSES are reached by a BACK of 120 from the last part, and by none from the next frame's. */
    private static void oldestIsGone() {
        Frame reached = new Frame().part(0, 40, 0, 0, 63).pulses(0, 7);
        for (int part = 1; part < 3; part++) {
            reached.part(part, 120, 0, 0, 0);
        }
        reached.part(3, 120, 3, 1, 0);
        Check.due("the first part, 120 back", reached.decoded().state(3, 80), 28670);
        reached.part(3, 119, 3, 1, 0);
        Check.due("the first part, 119 back", reached.decoded().state(3, 82), 28670);
        reached.part(3, 120, 0, 1, 0);
        VoiceFrames voice = reached.decoded();
        new Frame().part(0, 120, 3, 1, 0).decode(voice);
        VoiceFrames quiet = new Frame().decoded();
        new Frame().part(0, 120, 3, 1, 0).decode(quiet);
        Check.due("the next frame's BACK of 120 is of the second part", voice.state(3, 0), quiet.state(3, 0));
    }

    /** All bits 1: the loudest PULSES upon the loudest look back. */
    private static void loudestFrame() {
        Frame frame = new Frame().filter(63, 63, 31, 31, 15, 15, 7, 7);
        for (int part = 0; part < 4; part++) {
            frame.part(part, 127, 3, 3, 63).pulses(part, 7);
        }
        VoiceFrames voice = frame.decoded();
        for (int i = 0; i < 120; i++) {
            int place = i % 40;
            Check.due("PAST " + i, voice.state(3, i), place >= 3 && place % 3 == 0 ? 32767 : 0);
        }
        for (int part = 0; part < 4; part++) {
            frame.part(part, 127, 3, 3, 63).pulses(part, 0);
        }
        VoiceFrames low = frame.decoded();
        Check.due("the lowest PAST", low.state(3, 3), -32768);
        Check.due("and its last", low.state(3, 119), -32768);
    }

    private static void tableF() {
        Rows.encoded("Z is 0; Z is 1",
            "8891 -7731 160",
            "d8e3c432bc505dab176b279a789ce8f42e4903771d394a9240e6893b42dd8d371f", 1570596300);
        Rows.encoded("F(0), not one off; F(5), not one off; F(7), not one off",
            "-254 59187 80, 493 -28682 80",
            "db20b462e6505d1b13c976ce557ec52392091d8b3b8e2536172c6abc1926b3095f", 664108049);
        Rows.encoded("F(4), not one off",
            "49 2290 160",
            "d820a2e562507ec9286dc924739e40db92491cad943ba6e9e79473f4c1226e492a", -2062616227);
    }

    private static void cutOfThePast() {
        Rows.encoded("the PAST is 32767",
            "-23598 -23211 80, 3567 323 27, 32767 750 27, -32768 -77 26",
            "daad72dce0505b359b4fc6db619cf6dc75b75b6ebf492472505c85bea524f24924", 1492518904);
        Rows.encoded("the PAST would be 32768",
            "14943 -1035 27, 32767 26090 20, 1733 -63115 40, -30623 0 27, 24935 0 46",
            "da1f8c0d22501a691b6dbe9d54dfc724a1c72472bfc81b6db6fdca367fb6db6db6", -881460771);
        Rows.encoded("the PAST would be above 32768; the PAST would be below -32769",
            "21125 -23267 27, 2636 -1149 20, -9788 -2826 10, 16471 2003 10, 31191 771 20, 6565 438 73",
            "d9e58ae0a1503aa5db4974da63bfb71bd6bc147c5b37e496db6c98bfc96392b0db", 148895900);
        Rows.encoded("the PAST is -32768",
            "18* 32767 0 160, -32768 836 16, 4332 873 13, -24798 2899 10, 13402 37313 13, 3512 1751 10, "
                + "16119 372 20, -30114 -1967 13, -20777 36736 16, 13952 -601 7, 24137 -878 20, 29899 -10524 "
                + "20, -11255 0 2",
            "da20ab1909f19c08db8db41c5b58c12a91b97c69de1f09d0d52476dcb6db8d318a", 775450159);
        Rows.encoded("the PAST would be -32769",
            "-14905 5869 40, -32768 0 16, 12019 -412 20, -32768 -31647 80, -2899 0 4, -32468 0 16, "
                + "-29452 148 16, 6308 -1606 13, 29099 4186 5, -4839 -611 16, 32767 0 20, 32767 0 16, -32768 0 "
                + "16, -5920 0 5, -32768 -619 16, 22564 -4428 7, -13337 -1818 14",
            "d89f92a0daee9b02920492fb5cdeb8ec91f924cd3cdb64944b25b7dc2f65d0a6e6", -1130680402);
    }
}

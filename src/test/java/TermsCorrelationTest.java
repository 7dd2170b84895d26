/** Terms: CORRELATION. */
public final class TermsCorrelationTest {
    public static void main(String[] args) {
        Check.test("terms, CORRELATION: f is 0 if S is 0", TermsCorrelationTest::sIsZero);
        Check.test("terms, CORRELATION: f is 4 - NORM(S 65536)", TermsCorrelationTest::powersOfTwo);
        Check.test("terms, CORRELATION: y = M(x, 16384 >> (f - 1))", TermsCorrelationTest::roundsY);
        Check.test("terms, CORRELATION: silence, S is 0", TermsCorrelationTest::silence);
        Check.test("terms, CORRELATION: x becomes y << f, CUT, above", TermsCorrelationTest::cutAbove);
        Check.test("terms, CORRELATION: x becomes y << f, below", TermsCorrelationTest::notCutBelow);
        Check.test("terms, CORRELATION: x becomes y << f for all that follows", TermsCorrelationTest::cutInAFrame);
        Check.end();
    }

    /** Samples of 0 .. 7 are 0, those below and above are not. By hand: each number is (B + 256) >> 9, less LEAST. */
    private static void silence() {
        int[] filter = {32, 32, 20, 11, 8, 5, 3, 2};
        for (int sample = 0; sample <= 7; sample++) {
            VoiceFrames voice = new VoiceFrames();
            voice.fill(sample, 0, 160);
            voice.encode();
            for (int i = 0; i < 8; i++) {
                Check.due("number " + i + " of all " + sample, voice.parameter(i), filter[i]);
            }
            Check.due("BACK", voice.parameter(8), 40);
            Check.due("HEIGHT", voice.parameter(11), 0);
            Check.due("the state", Check.encoderHash(voice), Check.encoderHash(silent()));
        }
        int[] beyond = {-1, 8};
        for (int sample : beyond) {
            VoiceFrames voice = new VoiceFrames();
            voice.fill(sample, 0, 160);
            voice.encode();
            Check.due("all " + sample + " are not silence", voice.state(6, 1) == 0 ? 1 : 0, 0);
        }
    }

    private static VoiceFrames silent() {
        VoiceFrames voice = new VoiceFrames();
        voice.fill(0, 0, 160);
        voice.encode();
        return voice;
    }

    /** Sixty frames of one low or high sample, until w has almost gone: then a step is as great as can be. */
    private static VoiceFrames afterLong(int sample) {
        VoiceFrames voice = new VoiceFrames();
        for (int frame = 0; frame < 60; frame++) {
            voice.fill(sample, 0, 160);
            voice.encode();
        }
        return voice;
    }

    /** The step up is the frame's last sample: x is seen as the first U, and 2048 << 4 is CUT there. */
    private static void cutAbove() {
        VoiceFrames voice = afterLong(-32768);
        voice.fill(-32768, 0, 159);
        voice.put(32767);
        voice.encode();
        Check.due("U", voice.state(4, 0), 32767);
        VoiceFrames less = afterLong(-32768);
        less.fill(-32768, 0, 159);
        less.put(32747);
        less.encode();
        Check.due("U of a step that is less", less.state(4, 0), 32752);
    }

    /** The step down comes to -2048 << 4, which is a NUMBER. */
    private static void notCutBelow() {
        VoiceFrames voice = afterLong(32767);
        voice.fill(32767, 0, 159);
        voice.put(-32768);
        voice.encode();
        Check.due("U", voice.state(4, 0), -32768);
    }

    private static void cutInAFrame() {
        VoiceFrames voice = afterLong(-32768);
        Check.due("z of the low samples", voice.state(6, 0), -16384);
        Check.due("w of the low samples", voice.state(6, 1), -33845);
        Check.due("m of the low samples", voice.state(6, 2), -1);
        voice.fill(-32768, 0, 80);
        voice.fill(32767, 0, 80);
        Check.due("encode() of the step", voice.encode(), 61);
        voice.take();
        Check.due("the step", Check.handed(voice),
            "d4d879d8d950004924924924500049249249245f9ff6dc924924560f51b6b6db6d");
        Check.due("w of the step", voice.state(6, 1), 991435919);
        Check.due("U of the step", voice.state(4, 0), 4208);
    }

    private static void sIsZero() {
        Rows.encoded("S is 0",
            "bump 0 91 66 7",
            "d820a2e15a50004924924924500049249249245000492492492450004924924924", -965512566);
        Rows.encoded("S is 1",
            "bump 6 73 68 1309, bump 4 65 49 7",
            "d09b9ae15a660036db92472450004924924924d000492492492450004924924924", 1491140785);
    }

    private static void powersOfTwo() {
        Rows.encoded("S is 1",
            "bump 6 73 68 1309, bump 4 65 49 7",
            "d09b9ae15a660036db92472450004924924924d000492492492450004924924924", 1491140785);
        Rows.encoded("S is 2",
            "bump 4 70 10 -11492, bump 4 65 73 8",
            "d05d9ae15aa240f0ec9246dbea21072491b6dccc2036db6db6dc50004924924924", 894726906);
        Rows.encoded("S is 3",
            "bump 6 73 57 -3631, bump 8 96 23 4",
            "d05ea2e15a80404b2391c6e3da40492372371be80036e37246db50004924924924", -672874368);
        Rows.encoded("S is 4",
            "-8 0 160",
            "d2577a1cda500036db924924500049249249245000492492492452004924924924", 843132600);
        Rows.encoded("S is 5",
            "bump 8 71 82 -13",
            "db50599491500036db6db724622038dc6db6dba20036db8dc724a46049246e491b", 932281884);
        Rows.encoded("S is 7",
            "0 0 48, -4 -2 4, 0 0 108",
            "d9618c295a500049249249246a2048dc9249245000492492492450004924924924", -1247473267);
        Rows.encoded("S is 8",
            "-9 0 160",
            "d41871d8d1500036db6db724540049249249245000492492492450004924924924", 2122359545);
        Rows.encoded("S is 9",
            "-4 0 80, -8 -1 80",
            "d298822120500036db924924500049249249248a2038e47238e4504048e471c8e3", 466885252);
        Rows.encoded("S is 15",
            "-11 -1 160",
            "d1d9821cd8502036db6db6e35a0048e391c8e35040471b8e4723504047238e471b", 1365590281);
        Rows.encoded("S is 16",
            "-28 0 160",
            "d41871d8d1500026db6db6db500036db6db6dba20036db6db6dbf00036db6db6db", 1362234455);
        Rows.encoded("S is 17",
            "0 0 22, 2 -6 7, 0 0 131",
            "d822aa69e25000492491a55c500049249248e45000492492492450004924924924", -1105463325);
        Rows.encoded("S is 31",
            "0 0 104, 26 48 2, 0 0 54",
            "d9a6c3a9a250004924924924500049249249248ba036db6df69b50004924923724", 59221525);
        Rows.encoded("S is 32",
            "-58 0 160",
            "d41871d8d1500006db6db6db562046db6db6dba04036db6db6dbf04036db6db6db", -1992174535);
        Rows.encoded("S is 33",
            "48 0 53, -23 -1 107",
            "d4577a18d9500069249249245020c92291c6e3542046e36db6e39460371b6dc6db", -1549101922);
        Rows.encoded("S is 63",
            "-86 -3 53, -83 0 80, -50 0 27",
            "d55979d8d1500096d36db6db622136df6db6dba06036db6db6dba04036e46db6db", -104148392);
        Rows.encoded("S is 64",
            "-126 1 160",
            "d5da79d911500116db6db6db682036dc6e36dca800391b8e471b724039247248e4", -160043500);
        Rows.encoded("S is 65",
            "bump 0 73 63 913",
            "d019ad72f45040492492db6552405b1c9238db728034e36dc724b2c0491c71b6e3", 1789571575);
        Rows.encoded("S is 127",
            "0 0 143, 65 33 8, 0 0 9",
            "d820a2e56350004924924924500049249249245000492492492455a136db6e6e23", 1119224339);
        Rows.encoded("S is 128",
            "-231 9 53, -51 0 107",
            "d75d925d19500186db6e49246ba06df9dacb48c64026da71b6db866026db6db6d3", 2071406262);
        Rows.encoded("S is 129",
            "-170 1 120, 208 0 40",
            "d5da8218d9500106d36db6db564046e36db6dbaa00391b7236e39c81f6e4924924", -745318964);
        Rows.encoded("S is 255",
            "0 0 90, 11 73 9, 0 0 61",
            "d7e0a3256350004924924924500049249249247da2b6e6e236db5020491a39c924", 331048758);
        Rows.encoded("S is 256",
            "-508 6 160",
            "d55979d8d9500406db6db6db762046e37a49245000492c96d96d51c04925925b25", -1193307904);
        Rows.encoded("S is 257",
            "431 0 80, -143 -3 40, 192 0 40",
            "d65b821cd95003f92492492450002b6db6db6db004091b6db6dbf180b04a492492", 813472457);
        Rows.encoded("S is 511",
            "bump 0 77 80 7332",
            "d028fdaea25064492dbbfdb550227b248e492496406aeb6d371ad20034894926e3", -1294849744);
        Rows.encoded("S is 512",
            "-1024 -12 160",
            "d2177a1d1a500706d36db6db620056bb71b6dbaa402edc6db6dbf000e6e36db6db", 878569524);
        Rows.encoded("S is 513",
            "-154 14 53, -531 4 107",
            "d71d8a5cd95001092496db6d6ba6c92071b6db5020a49549b6db8c00bcd36db6db", 968334988);
        Rows.encoded("S is 1023",
            "-1372 0 120, 845 0 40",
            "d5da8218d9500986db6db6db5a60b84924924aa000e292492492b88c76dc924924", 443968516);
        Rows.encoded("S is 1024",
            "0 0 42, -2048 0 3, 0 0 115",
            "d820f2a25a500049249249245bcc09246db6db5041f6db92492450004724924924", 1679790301);
        Rows.encoded("S is 1025",
            "bump 8 99 63 -7894",
            "d800afe3585040492492492397a02492492693500026dd72c95cbe8038dc52289c", -1226685340);
        Rows.encoded("S is 2047",
            "-136 193 160",
            "d060a2e15a5045edfedfeb6d5220ed6ddaddffa020edb6fb6ffff0216daedb6df7", -291393239);
        Rows.encoded("S is 2048",
            "-4091 0 160",
            "d3d871d8d9500f86db6db6db5e2247db6db6dba6023edb6db6dbf00276db6db6db", 375569656);
        Rows.encoded("S is 2049",
            "bump 5 89 6 2692",
            "daf3f6bfba500049249249245000492492492453c4c1d2cdb6db50403e2d324924", -1953293112);
        Rows.encoded("S is 4095",
            "-2 0 20, 1 0 16, -2 36833 53, -2 -1 13, -2 1 10, -1 1 40, -2 0 8, -8192 -17 160",
            "d35771d8d9963680024d36dbd80884e34dc6dba4094ffeb64924f0297ff5b24924", 306207891);
        Rows.encoded("S is 4096",
            "-8192 0 160",
            "d3d871d8d9501386db6db6db604447db6db6dba6043edb6db6dbf004f6db6db6db", -1836228929);
        Rows.encoded("S is 4097",
            "1603 0 40, -6802 0 120",
            "d51979d8d9500a79249249245a9389236db6db5223f20a492492a603ae49492492", 1829013720);
        Rows.encoded("S is 8191",
            "1285 143 53, 12869 -843 16, 15668 983 16, 9899 98 75",
            "d5da821cd95009fbb6db6db68bd749246dbf24545841249248e496696dbffdedbe", -1034870704);
        Rows.encoded("S is 8192",
            "-16384 -99 160",
            "d29771d8d9501786db6db6db5e28d7db6db6dba008f6db6db6dbf008f6db6db6db", 431045781);
        Rows.encoded("S is 8193",
            "bump 6 65 32 30, bump 2 60 82 -16380",
            "d83fb7e15a8febe8cbccfad7562df6e46e46e47e42bb0bb43b1ccc423ad4ac48dc", -1534051322);
        Rows.encoded("S is 16383",
            "-1 32768 160",
            "df94619491503a7923924724506bfd75b6eb6da409516df6dbedf0298b6fb6df6d", -1476745517);
        Rows.encoded("S is 16384",
            "-32768 37 160",
            "d45871d8d1501b86db6db6db604cd7db6db6dba22cf6db6db6dbf00d76dc6e3924", -2024627637);
        Rows.encoded("S is 16385",
            "-8185 33040 27, -32768 0 133",
            "dbd08198d1501fc923924123664fa48925124f6a10725a492492ba10725a492492", 44566744);
    }

    private static void roundsY() {
        Rows.encoded("M of just a half",
            "-4091 0 160",
            "d3d871d8d9500f86db6db6db5e2247db6db6dba6023edb6db6dbf00276db6db6db", 375569656);
    }
}

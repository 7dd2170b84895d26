/** Terms: THE FILTER of a frame. */
public final class TermsFilterTest {
    /** g of every FILTER number, by the document's formula. */
    private static final int[][] G = {
        {-26214, -25394, -24576, -23756, -22938, -22118, -21298, -20480, -19660, -18842, -18022, -17202, -16384,
            -15564, -14746, -13926, -13106, -12288, -11468, -10650, -9830, -9012, -8192, -7372, -6554, -5734,
            -4916, -4096, -3276, -2458, -1638, -820, 0, 820, 1638, 2458, 3276, 4096, 4916, 5734, 6554, 7372, 8192,
            9012, 9830, 10650, 11468, 12288, 13108, 13926, 14746, 15564, 16384, 17202, 18022, 18842, 19660, 20480,
            21298, 22118, 22938, 23756, 24576, 25394},
        {-26214, -25394, -24576, -23756, -22938, -22118, -21298, -20480, -19660, -18842, -18022, -17202, -16384,
            -15564, -14746, -13926, -13106, -12288, -11468, -10650, -9830, -9012, -8192, -7372, -6554, -5734,
            -4916, -4096, -3276, -2458, -1638, -820, 0, 820, 1638, 2458, 3276, 4096, 4916, 5734, 6554, 7372, 8192,
            9012, 9830, 10650, 11468, 12288, 13108, 13926, 14746, 15564, 16384, 17202, 18022, 18842, 19660, 20480,
            21298, 22118, 22938, 23756, 24576, 25394},
        {-16384, -15564, -14746, -13926, -13106, -12288, -11468, -10650, -9830, -9012, -8192, -7372, -6554, -5734,
            -4916, -4096, -3276, -2458, -1638, -820, 0, 820, 1638, 2458, 3276, 4096, 4916, 5734, 6554, 7372, 8192,
            9012},
        {-9012, -8192, -7372, -6554, -5734, -4916, -4096, -3276, -2458, -1638, -820, 0, 820, 1638, 2458, 3276,
            4096, 4916, 5734, 6554, 7372, 8192, 9012, 9830, 10650, 11468, 12288, 13108, 13926, 14746, 15564, 16384},
        {-9832, -8630, -7430, -6228, -5026, -3824, -2624, -1422, -220, 980, 2182, 3384, 4586, 5786, 6988, 8190},
        {-4916, -3822, -2730, -1638, -546, 546, 1638, 2730, 3822, 4916, 6008, 7100, 8192, 9284, 10376, 11468},
        {-6554, -4588, -2622, -656, 1310, 3276, 5242, 7206},
        {-3278, -1422, 436, 2292, 4148, 6006, 7862, 9718},
    };

    public static void main(String[] args) {
        Check.test("terms, THE FILTER: g of the least to the greatest FILTER number", TermsFilterTest::everyNumber);
        Check.test("terms, THE FILTER: g of the frame before, 0 at first", TermsFilterTest::frameBefore);
        Check.test("terms, THE FILTER: g = CUT(2 M(C, CUT(CUT(c + LEAST) 1024 - 2 B)))", TermsFilterTest::everyG);
        Check.test("terms, THE FILTER: samples 0 .. 12, 13 .. 26, 27 .. 39, 40 .. 159", TermsFilterTest::stretches);
        Check.test("terms, THE FILTER: 2 k below 11059", TermsFilterTest::below11059);
        Check.test("terms, THE FILTER: k + 11059 below 20070", TermsFilterTest::below20070);
        Check.test("terms, THE FILTER: samples 0 .. 12, 13 .. 26, 27 .. 39, 40 .. 159 of the encoding",
            TermsFilterTest::stretchesOfTheEncoding);
        Check.test("terms, THE FILTER: r by its SIZE k of the encoding", TermsFilterTest::below20070OfTheEncoding);
        Check.end();
    }

    private static void everyNumber() {
        for (int c = 0; c < 64; c++) {
            Frame frame = new Frame();
            for (int j = 0; j < 8; j++) {
                frame.parameters[j] = Math.min(c, G[j].length - 1);
            }
            VoiceFrames voice = frame.decoded();
            for (int j = 0; j < 8; j++) {
                int number = frame.parameters[j];
                Check.due("g of " + number + ", number " + j, voice.state(1, j), G[j][number]);
                Check.due("g of the encoding", voice.state(0, j), 0);
            }
        }
    }

    /** The first 40 samples are of both filters, so a second frame of the same numbers begins by others' samples. */
    private static void frameBefore() {
        int[] numbers = {63, 0, 31, 0, 15, 0, 7, 0};
        VoiceFrames once = new Frame().filter(numbers).decoded();
        VoiceFrames other = new Frame().filter(0, 63, 0, 31, 0, 15, 0, 7).decoded();
        new Frame().filter(numbers).decode(other);
        for (int j = 0; j < 8; j++) {
            Check.due("g " + j, other.state(1, j), once.state(1, j));
        }
        VoiceFrames again = new Frame().filter(0, 63, 0, 31, 0, 15, 0, 7).decoded();
        again.reset(1);
        new Frame().filter(numbers).decode(again);
        Check.due("samples behind reset(1)", Check.hash(0, 160, again::sample), Check.hash(0, 160, once::sample));
    }

    private static void everyG() {
        Rows.decoded("C(0), not one off; C(1), not one off; C(2), not one off; C(4), not one off; C(5), not "
                + "one off; B(0), not one off; M rounds",
            "d5790e086ba832a70ea437e5220325364f57170588b0e9c7e5421baf6961f850de",
            -1696857312, 1219481936);
        Rows.decoded("C(0), not one off; C(1), not one off; C(2), not one off; C(3), not one off; C(5), not "
                + "one off; 1024, not one off; B(0), not one off; B(1), not one off; B(2), not one off; B(3), "
                + "not one off; B(4), not one off; B(5), not one off; B(6), not one off; B(7), not one off; "
                + "LEAST(0), not one off; LEAST(1), not one off; LEAST(2), not one off; LEAST(3), not one off; "
                + "LEAST(4), not one off; LEAST(5), not one off; LEAST(6), not one off; LEAST(7), not one off; "
                + "M rounds",
            "d40f07ec2801ffa2f8bff1c48e7afef8efd0f87ae0507b3d4ff8a3991e2f140200",
            -1724040408, 814688238);
        Rows.decoded("C(4), not one off; C(6), not one off; C(7), not one off; M rounds",
            "d3c607e87f0080623f1dbfeb9fb10fd8f47f45fe7faa32ebf420a930017f083f65 "
                + "d03ff81438001e023f3c0002a587d070041e2001a201fbbc0980019938871ff237",
            -868739016, 1348127960);
        Rows.decoded("C(6), not one off",
            "d0336843b6fee18040dffe7ffe007987143017001fa7fc478b0701ff8e07dfc687",
            1633889216, 1248176990);
        Rows.decoded("M rounds",
            "d5102542dd10cf4d898960afad76cc2326295bf8c21c55879a79bab76b8f7bac99",
            1007611856, -308765301);
    }

    private static void stretches() {
        Rows.decoded(">> rounds down, by so many; 13, not one off; 27, not one off; 40, not one off",
            "d3c607e87f0080623f1dbfeb9fb10fd8f47f45fe7faa32ebf420a930017f083f65 "
                + "d03ff81438001e023f3c0002a587d070041e2001a201fbbc0980019938871ff237",
            -868739016, 1348127960);
    }

    private static void below11059() {
        Rows.decoded("k is 11058",
            "def2c8a0acf37831949e75bbf13b8d38b294d14ff89bf2237f89f3f843f1ceb77a "
                + "deac98615a4d2e4824558b6bf0a16a211f80dc4cd776d1fa898cf5d2c839a91fe2",
            -1480693616, -1106696582);
        Rows.decoded("k is 11059",
            "d1074f5915df9bbc4a0c6e259fc78f2640af0719ef4e8b038d127d46cb2df69056",
            -1387545528, -247398077);
        Rows.decoded("k is 11060",
            "d417109dc0b18cd04513b8564f22d6156c89c3796b052a78923afdfa410ce84ec4",
            1186434624, -338324195);
    }

    private static void below20070() {
        Rows.decoded("k is 20069",
            "de97b098ad4fff80380071ff559e71c003f03859fe8ff803ffc057fd7e001c0ff8 "
                + "de03a9ba2755bcf1ffe07e3f4dff81c0fff1ff4fdf8ffffc70074fbd70381c0ff8",
            -1984467232, -471926680);
        Rows.decoded("k is 20070",
            "d3c607e87f0080623f1dbfeb9fb10fd8f47f45fe7faa32ebf420a930017f083f65 "
                + "d03ff81438001e023f3c0002a587d070041e2001a201fbbc0980019938871ff237",
            -868739016, 1348127960);
        Rows.decoded("k is 20071",
            "de0fe6e3114fdc7007fc0fc7539f8e3fe001c74dbe0fff1c0e384fde8fff1f8fc7 "
                + "d2458ae4734fde8038e38fc751fc7038e071c74fdf70380381c055fe0e07fc7fff",
            -1269361896, 1083128417);
        Rows.decoded("26112, not one off; >> rounds down, by so many",
            "d000d803c6fe5ffdfffc7ec06b0009d8e42e85ff8e7ff80173c5d5600bf81c1ec7",
            1450432984, 2099000632);
    }

    private static void stretchesOfTheEncoding() {
        Rows.encoded(">> rounds down, by so many",
            "-2 32768 20, 6 0 13, 4 32768 13, 7 32768 16, 3 32768 10, 1 0 88, 191 32768 53, 2909 0 27, "
                + "3230 0 40, -1192 0 27, 46 32768 13",
            "de9b8218d9e0bb071b6da6db5c3c36df6e4924524c7df0dadb6cf0bb48e4924123", 84187938);
        Rows.encoded(">> rounds down, by so many; 13, not one off; 27, not one off; 40, not one off",
            "3* -32768 0 160, 2 -34821 160",
            "dd609b1d9bbd9d66e3d248fc65ddb7d58e571b5f1ce9233dc72cc1f695d5aec498", -144406772);
        Rows.encoded(">> rounds down, by so many",
            "-488 -1393 40, 471 0 120",
            "d7df9ae11a501eb6db6df924501389249216db701086db924924c01086db924924", 451852408);
        Rows.encoded(">> rounds down, by so many",
            "bump 0 89 41 -1708, bump 5 93 86 -606",
            "dabf71c250c3e05b64b24b695100f4e471b6db54c03b24b24b1ccc004964924924", 1961729632);
    }

    private static void below20070OfTheEncoding() {
        Rows.encoded("k is 11058; k is 20071",
            "bump 0 78 43 31856, bump 6 99 61 -116",
            "d294883d115420244a4926d3544036db6dc6958c8037637627626080291b71b6e3", 99384050);
        Rows.encoded("k is 11059",
            "-5 26713 160",
            "dba9a761da5058acb8672ba7717d071d92c2e36dfec7246e47186358b6e3b2089c", -1718852761);
        Rows.encoded("k is 11060",
            "bump 1 89 51 -4",
            "de4e5998d15000492492492452003924924924500049249249248040492491c924", -1534944264);
        Rows.encoded("k is 20069",
            "-2 32768 20, 6 0 13, 4 32768 13, 7 32768 16, 3 32768 10, 1 0 88, 191 32768 53, 2909 0 27, "
                + "3230 0 40, -1192 0 27, 46 32768 13",
            "de9b8218d9e0bb071b6da6db5c3c36df6e4924524c7df0dadb6cf0bb48e4924123", 84187938);
        Rows.encoded("k is 20070",
            "-32768 0 160, -32768 0 160, 21 55 16, 946 0 40, -829 0 80, 1023 -42 24",
            "d6dc8a1cd9a597751c9249246a29fff37beb6da449af75b6db6ddaabc924f24b24", 1171722148);
        Rows.encoded("11059, not one off; 26112, not one off; >> rounds down, by so many; SIZE of a number "
                + "below 0",
            "3* -32768 0 160, 2 -34821 160",
            "dd609b1d9bbd9d66e3d248fc65ddb7d58e571b5f1ce9233dc72cc1f695d5aec498", -144406772);
    }
}

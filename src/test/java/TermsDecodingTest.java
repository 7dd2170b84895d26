/** Terms: DECODING a frame. */
public final class TermsDecodingTest {
    public static void main(String[] args) {
        Check.test("terms, DECODING: BACK if it is 40 .. 120, else the one before (40 at first)",
            TermsDecodingTest::backOfEachValue);
        Check.test("terms, DECODING: the BACK before, part by part", TermsDecodingTest::backOfTheFrameBefore);
        Check.test("terms, DECODING: the lowest three bits 0", TermsDecodingTest::lowestBits);
        Check.test("terms, DECODING: the least and the greatest sample", TermsDecodingTest::edgesOfASample);
        Check.test("terms, DECODING: BACK if it is 40 .. 120, else the one before", TermsDecodingTest::backOutside);
        Check.test("terms, DECODING: PULSES MADE AGAIN", TermsDecodingTest::tableF);
        Check.test("terms, DECODING: w and the PAST likewise", TermsDecodingTest::cutOfThePast);
        Check.test("terms, DECODING: s = CUT(s - M(r(j), V(j - 1)))", TermsDecodingTest::cutOfS);
        Check.test("terms, DECODING: V(j) = CUT(V(j - 1) + M(r(j), s))", TermsDecodingTest::cutOfV);
        Check.test("terms, DECODING: m = CUT(s + M(m, 28180))", TermsDecodingTest::cutOfM);
        Check.test("terms, DECODING: the sample is CUT(2 m)", TermsDecodingTest::cutOfTheSample);
        Check.end();
    }

    private static void backOfEachValue() {
        for (int told = 0; told < 128; told++) {
            VoiceFrames voice = withBack(told).decoded();
            Check.due("BACK at first, behind " + told, voice.state(7, 0), told >= 40 && told <= 120 ? told : 40);
            Check.due("parameter(59)", voice.parameter(59), told);
            VoiceFrames later = withBack(77).decoded();
            withBack(told).decode(later);
            Check.due("BACK behind 77 and " + told, later.state(7, 0), told >= 40 && told <= 120 ? told : 77);
        }
    }

    private static Frame withBack(int back) {
        Frame frame = new Frame();
        for (int part = 0; part < 4; part++) {
            frame.part(part, back, 0, 0, 0);
        }
        return frame;
    }

    /** The frame's last BACK goes on; a part without one uses that of the part before. */
    private static void backOfTheFrameBefore() {
        int[][] told = {{39, 41, 121, 0}, {127, 39, 119, 121}, {120, 40, 120, 39}, {40, 121, 39, 127}};
        int[] due = {41, 119, 120, 40};
        VoiceFrames voice = new VoiceFrames();
        for (int i = 0; i < told.length; i++) {
            Frame frame = new Frame();
            for (int part = 0; part < 4; part++) {
                frame.part(part, told[i][part], 0, 0, 0);
            }
            frame.decode(voice);
            Check.due("BACK behind frame " + i, voice.state(7, 0), due[i]);
        }
        Frame own = new Frame().part(0, 40, 0, 0, 63).pulses(0, 7).part(1, 41, 3, 1, 0).part(2, 81, 3, 1, 0);
        Frame before = new Frame().part(0, 40, 0, 0, 63).pulses(0, 7).part(1, 41, 3, 1, 0).part(2, 121, 3, 1, 0);
        Frame same = new Frame().part(0, 40, 0, 0, 63).pulses(0, 7).part(1, 41, 3, 1, 0).part(2, 41, 3, 1, 0);
        Check.due("PAST by the BACK before", pastOf(before), pastOf(same));
        Check.due("PAST by another BACK is another", pastOf(own) == pastOf(same) ? 1 : 0, 0);
    }

    private static int pastOf(Frame frame) {
        VoiceFrames voice = frame.decoded();
        return Check.hash(0, 120, i -> voice.state(3, i));
    }

    private static void lowestBits() {
        for (int height = 0; height < 64; height += 9) {
            VoiceFrames voice = new Frame().part(1, 40, 2, 1, height).pulses(1, 0, 7, 3, 1).decoded();
            for (int i = 0; i < 160; i++) {
                Check.due("sample(" + i + ")", voice.sample(i) & 7, 0);
            }
            Check.due("sample(159) is of m", voice.sample(159), sampleOf(voice.state(7, 1)));
        }
    }

    private static int sampleOf(int m) {
        return Math.max(-32768, Math.min(32767, 2 * m)) & -8;
    }

    /** A filter near its ends makes the loudest PULSES louder still, up and down. */
    private static void edgesOfASample() {
        due(7, 32760);
        due(0, -32768);
    }

    private static void due(int pulse, int edge) {
        Frame frame = new Frame().filter(0, 32, 16, 16, 8, 8, 4, 4);
        for (int part = 0; part < 4; part++) {
            frame.part(part, 40, 3, part % 3, 63).pulses(part, pulse);
        }
        VoiceFrames voice = frame.decoded();
        frame.decode(voice);
        int count = 0;
        for (int i = 0; i < 160; i++) {
            int sample = voice.sample(i);
            Check.due("sample(" + i + ") is a number", sample < -32768 || sample > 32760 ? 1 : 0, 0);
            count += sample == edge ? 1 : 0;
        }
        Check.due("samples of " + edge, count > 0 ? 1 : 0, 1);
        Check.due("sample(159) is of m", voice.sample(159), sampleOf(voice.state(7, 1)));
    }

    private static void backOutside() {
        Rows.decoded("BACK is 119; BACK is 40; BACK is 41",
            "d46840f420ef8808785d3c3a50dce8e3ccd795537fa150af7711f11e274b36a5bc",
            -210723104, -1175232130);
        Rows.decoded("BACK is 120; BACK is 121; BACK is 39",
            "d221c6dcecf11b90b43410674e5e7f1883c946ed2f57a695066df35553d962cf66",
            -389981768, -1943069940);
    }

    private static void tableF() {
        Rows.decoded("HEIGHT is 14",
            "d7c39f6329ed772ae6109796ef873626791aceedaf8a9ed148395141559cc424db",
            861370408, -837400192);
        Rows.decoded("HEIGHT is 15",
            "d1074f5915df9bbc4a0c6e259fc78f2640af0719ef4e8b038d127d46cb2df69056",
            -1387545528, -247398077);
        Rows.decoded("HEIGHT is 16; N is 8; N is 9; Z is 0",
            "d46840f420ef8808785d3c3a50dce8e3ccd795537fa150af7711f11e274b36a5bc",
            -210723104, -1175232130);
        Rows.decoded("N is 7",
            "d0336843b6fee18040dffe7ffe007987143017001fa7fc478b0701ff8e07dfc687",
            1633889216, 1248176990);
        Rows.decoded("Z is 1",
            "d40f07ec2801ffa2f8bff1c48e7afef8efd0f87ae0507b3d4ff8a3991e2f140200",
            -1724040408, 814688238);
        Rows.decoded("F(0), not one off",
            "dc217ea04b2eb595d743be47e31c593db980d36d22ac5f6c4858f15edf6cf70bbf",
            -684706744, 1646910595);
        Rows.decoded("F(3), not one off; F(6), not one off",
            "d13c8f74d651bf7007000e00579df1fffc003f4fdf01f803f00057fd0007ff8e38",
            -1857895232, 80897863);
    }

    private static void cutOfThePast() {
        Rows.decoded("the PAST is 32767; the PAST would be -32769",
            "d8eeffc810ff9fc228fffe00ff9fff53f8a0702f8001e3038e07fe7f8bf80391f8",
            1849149432, 1117780607);
        Rows.decoded("the PAST would be 32768",
            "d03ffb9eb800600f59e3dec7fe1fde0f019186ffbd78381cbe2c019fc038a05140",
            -514566528, -1679646865);
        Rows.decoded("the PAST would be above 32768; the PAST would be below -32769",
            "d00d001f60ffffa3c803de10fef92d3907b0bf837f9e381c4e01a45d8ec2ff00c3",
            102452896, 1504322823);
        Rows.decoded("the PAST is -32768",
            "d0336843b6fee18040dffe7ffe007987143017001fa7fc478b0701ff8e07dfc687",
            1633889216, 1248176990);
        Rows.decoded("M of just a half; M of just below a half",
            "da092830cd2877ca586251904e39fd3450b29d6dbdb022f7d6e41ded3aa6a3eab4",
            1255480792, 2060167343);
    }

    private static void cutOfS() {
        Rows.decoded("M of just a half; s is 32767; s would be above 32768; s is -32768; s would be below "
                + "-32769",
            "d82a02b7bb598aaf3e5fec45b22ee100664b3b77e0cb3e1469a8a5dda743f3049d",
            -1409345360, 968006807);
        Rows.decoded("M of just below a half",
            "d000d803c6fe5ffdfffc7ec06b0009d8e42e85ff8e7ff80173c5d5600bf81c1ec7",
            1450432984, 2099000632);
        Rows.decoded("s would be 32768",
            "d52a1885cd4dde0e3fe3ffff4fbe81ffe00fc751de81c0e3803f4fdc8e38e00fc7",
            599086984, 804782169);
        Rows.decoded("s would be -32769",
            "d2c1db9b8794d769a6ddb6daf8158e221efad8470e9cd32f9c025b8f086ddc56f1",
            -1826104952, 362426162);
    }

    private static void cutOfV() {
        Rows.decoded("M of just a half; V(j) would be above 32768; V(j) would be -32769; V(j) would be below "
                + "-32769",
            "d1f8c2008355be8e38fffe07539f8e3f1c703f4fde0e381c003851bd8fc71c0e3f",
            -498971064, -1744332275);
        Rows.decoded("M of just below a half",
            "db2f7f32a151bdfff8e3ffc74fdcfe3f03f1c057fd8038e00ff857ff01f8e38ff8",
            1760123592, -463418689);
        Rows.decoded("V(j) is 32767; V(j) is -32768",
            "d82a02b7bb598aaf3e5fec45b22ee100664b3b77e0cb3e1469a8a5dda743f3049d",
            -1409345360, 968006807);
        Rows.decoded("V(j) would be 32768",
            "dfff53e484ed00000f00203888fff22e027e3fff8c10a207f7f721f5008803a03f",
            -165297400, -673264331);
    }

    private static void cutOfM() {
        Rows.decoded("M of just a half; m would be 32768; m would be above 32768; m would be below -32769",
            "d40f07ec2801ffa2f8bff1c48e7afef8efd0f87ae0507b3d4ff8a3991e2f140200",
            -1724040408, 814688238);
        Rows.decoded("m is 32767",
            "d3da42cc77f54fb2116be88d53428af253be73f317ddf9572178f387cd78cedd2f",
            555282672, 1125024951);
        Rows.decoded("m is -32768",
            "d46840f420ef8808785d3c3a50dce8e3ccd795537fa150af7711f11e274b36a5bc",
            -210723104, -1175232130);
        Rows.decoded("m would be -32769",
            "dfaf4d285f55ff803f038e3f4dfc00380381f84dbf01c70381f855be003fe38007",
            1977955368, 841603522);
    }

    private static void cutOfTheSample() {
        Rows.decoded("2 m would be 32768",
            "d9bfb560afff9f8de7ec0b07fe007626fc0e3d019d6c4f110cb7001f81d81d103f",
            405305168, 2062902931);
        Rows.decoded("2 m would be above 32768; 2 m is -32768; 2 m would be below -32769",
            "d13c8f74d651bf7007000e00579df1fffc003f4fdf01f803f00057fd0007ff8e38",
            -1857895232, 80897863);
    }
}

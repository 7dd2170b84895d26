/** Terms: ENCODING a frame, from samples to x. What can be told by hand is in TermsNumbersTest. */
public final class TermsSamplesTest {
    public static void main(String[] args) {
        Check.test("terms, ENCODING: t = (s >> 3) << 2", TermsSamplesTest::roundsDown);
        Check.test("terms, ENCODING: w = p 32735 + v + M(q, 32735)", TermsSamplesTest::wGoesOn);
        Check.test("terms, ENCODING: e = (w + 16384) >> 15", TermsSamplesTest::eRounds);
        Check.test("terms, ENCODING: x = CUT(CUT(e) + M(m, -28180))", TermsSamplesTest::xOfTheOneBefore);
        Check.end();
    }

    private static void roundsDown() {
        Rows.encoded(">> rounds down, by so many",
            "-9 0 160",
            "d41871d8d1500036db6db724540049249249245000492492492450004924924924", 2122359545);
    }

    private static void wGoesOn() {
        Rows.encoded("32735, not one off; M rounds; >> rounds down, by so many",
            "-8 0 160",
            "d2577a1cda500036db924924500049249249245000492492492452004924924924", 843132600);
    }

    private static void eRounds() {
        Rows.encoded("16384, not one off; >> rounds down, by so many",
            "0 0 59, 917 0 6, 0 0 95",
            "d7df9ae3195000492492492455a736db7e28a35020c92485d75cc860c924924921", -1566361266);
        Rows.encoded("16384, not one off",
            "1 0 40, -12 0 80, 51 -1 40",
            "d6dd8adcd950004924924924502036db6db6db520036db6db6dbeb8076e39246dc", 1497151799);
    }

    private static void xOfTheOneBefore() {
        Rows.encoded("M of just a half",
            "bump 3 74 34 -8188",
            "d83fa7fd5a500049249249246fc1386761e8e253a13b693f9323506037236e46dc", 1820699688);
        Rows.encoded("-28180, not one off; M rounds",
            "-136 193 160",
            "d060a2e15a5045edfedfeb6d5220ed6ddaddffa020edb6fb6ffff0216daedb6df7", -291393239);
    }
}

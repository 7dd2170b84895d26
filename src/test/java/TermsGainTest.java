/** Terms: GAIN and w. */
public final class TermsGainTest {
    public static void main(String[] args) {
        Check.test("terms, GAIN: 0 if T is 0", TermsGainTest::tIsZero);
        Check.test("terms, GAIN: 3 if T is V or more", TermsGainTest::tIsV);
        Check.test("terms, GAIN: at most L((V << n) >> 16, D(i))", TermsGainTest::tableD);
        Check.test("terms, GAIN: w(k) = M(G(GAIN), P(k - BACK))", TermsGainTest::tableG);
        Check.end();
    }

    private static void tIsZero() {
        Rows.encoded("T is 0 of a sum above 0; T is 1; T and V are 0; T is 0",
            "-32 1 160",
            "d2d87a1d18500028db8e47235640491c8e371c5e0047248e4924608049248e4924", 1618588480);
        Rows.encoded("the bound, not one off",
            "0 0 76, 18 -18 6, 0 0 78",
            "d821b42ce35000492492492451c036db6db6e15c00292492492450004924924924", -1044752981);
    }

    private static void tIsV() {
        Rows.encoded("T is V - 1",
            "30 3 53, 137 -3 107",
            "d2d662d528500059259249245d2048d98db6db7c4036db71b6db982036db6e36db", -486431313);
        Rows.encoded("T is V; T is V + 1",
            "bump 0 88 47 -1526",
            "d024fdfa9950004924924924858038db6db6e3938048e38db6e38a0036db8e4924", -1684593688);
    }

    private static void tableD() {
        Rows.encoded("one below the bound of D(0)",
            "16735 0 120, -3105 10188 40",
            "d8e4cbf0005018fb6db6db6d52eeffffffffffa630ffffffffffd93d3153c5bc9a", -2063498771);
        Rows.encoded("at the bound of D(0)",
            "28 0 40, 43 1 120",
            "d2188a19185000592492492451a026db6db6db8a60492371c6e3ea2038e47248e4", 1519024604);
        Rows.encoded("one above the bound of D(0)",
            "-2131 -15149 53, -4228 0 80, -13709 0 27",
            "d9a9fb58d4503a99a1915e2656db616189b4a350518602289249b279b6c845144a", -733513588);
        Rows.encoded("one below the bound of D(1)",
            "32767 -41279 160",
            "db2da4e139501b651ba65e6c56dcc4a73618946df9c7438e48a86d18669ce9c313", 114164567);
        Rows.encoded("at the bound of D(1)",
            "10 1 80, 26 0 40, 16 0 40",
            "d59b71d8905000492492c9245780471b8db71b8680a72492492450004924924924", -1605699686);
        Rows.encoded("one above the bound of D(1)",
            "-2 -51076 160",
            "d9a8fd615f503b66341a0d05533bcf648e472388bc34da6d37e3ed35fced5226d3", 1954875866);
        Rows.encoded("one below the bound of D(2)",
            "2109 -34199 160",
            "dde1ab219b505d58db69791b5d9c347cb1b6eb8b7db6dd91b6fa5939491b5e38da", -95932069);
        Rows.encoded("at the bound of D(2)",
            "-5 26713 160",
            "dba9a761da5058acb8672ba7717d071d92c2e36dfec7246e47186358b6e3b2089c", -1718852761);
        Rows.encoded("one above the bound of D(2)",
            "-124 3 120, 285 0 40",
            "d3187218d9500088db6db8e49a00392492492466804924924924bb80589c8e391b", 848652627);
        Rows.encoded("not one off",
            "-31123 267 10, -32768 2732 10, 32767 -740 10, -31123 267 10, -32768 2732 10, 32767 -740 10, "
                + "-31123 267 10, -32768 2732 10, 32767 -740 10, -31123 267 10, -32768 2732 10, 32767 -740 10, "
                + "-31123 267 10, -32768 2732 10, 32767 -740 10, -31123 267 10",
            "d79e9aa11a501e16db73481b79bd393c8dc723791a770b8db79cb5969b0c4e382b", -663449276);
    }

    private static void tableG() {
        Rows.encoded("M of just a half",
            "-21906 407 27, 17258 2667 27, -19822 -81 27, -21906 407 27, 17258 2667 27, -19822 -81 25",
            "d7dfa2e219501da6db6dbd446dd7dbb88636dba3b5f724924692cc98ab5d08a44c", -613667163);
        Rows.encoded("M of just below a half",
            "9* -32768 0 160, -8 26549 40, -8 0 80, 5 21247 40",
            "daaa82d4c2c9b93a79cbbee654567baebadb757652fffffffffeed5d38e39e291c", -755562836);
        Rows.encoded("G(1), not one off; G(2), not one off; G(3), not one off; M rounds",
            "-26051 49602 160",
            "d9e9fb611b507aa9a3b838d554fd4b2509c6e55b7e49204ec92b95d4a94671ec6c", -377388264);
    }
}

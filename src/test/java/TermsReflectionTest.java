/** Terms: REFLECTION. */
public final class TermsReflectionTest {
    public static void main(String[] args) {
        Check.test("terms, REFLECTION: a(k) = (K(k) << n) >> 16", TermsReflectionTest::norm);
        Check.test("terms, REFLECTION: p(0) is below SIZE(p(1))", TermsReflectionTest::stops);
        Check.test("terms, REFLECTION: r(j) is 0 if p(1) is 0", TermsReflectionTest::topIsZero);
        Check.test("terms, REFLECTION: p(0) is 0", TermsReflectionTest::bottomIsZero);
        Check.test("terms, REFLECTION: 32767 at most", TermsReflectionTest::mostOfAll);
        Check.test("terms, REFLECTION: p and q by what there was", TermsReflectionTest::byWhatThereWas);
        Check.end();
    }

    private static void norm() {
        Rows.encoded(">> rounds down, by so many",
            "8048 57550 160",
            "d8e3c436f9507c1e5e35acde56fbc0e472492553970c2b51c8ec95b5722a4d665a", 754168943);
        Rows.encoded(">> rounds down, by so many",
            "-197 10 160",
            "d119926519500108db92492450004924924924a0204924924924f020596c92492c", 61019094);
    }

    private static void stops() {
        Rows.encoded("p(0) is SIZE(p(1)) - 1 at j = 2",
            "bump 1 82 50 769",
            "dfe0a2e15a5040492492491b55c036db6d36dc5280471c6dc6db5a00371c924924", -27011548);
        Rows.encoded("p(0) is SIZE(p(1)) at j = 2; p(0) is SIZE(p(1)) at j = 3",
            "bump 1 62 55 -28914",
            "dfffa2e15a506cc8dc71c91f510c86e471c6dc58c30d2491b924a001f91b8e3923", 928124367);
        Rows.encoded("p(0) is SIZE(p(1)) + 1 at j = 2; p(0) is SIZE(p(1)) - 1 at j = 3",
            "bump 1 61 48 251",
            "dffda2e15a504049246e371a586038dc6dc6e3822037228db92450004924924924", 1289271275);
        Rows.encoded("p(0) is SIZE(p(1)) + 1 at j = 3; p(0) is SIZE(p(1)) + 1 at j = 6; p(0) is SIZE(p(1)) + 1 "
                + "at j = 8",
            "bump 0 88 64 14533",
            "d021fae01e5040c92492497750a0dbadb6db23506046da44944ad020249b71c8db", -886932143);
        Rows.encoded("p(0) is SIZE(p(1)) - 1 at j = 4",
            "bump 3 77 69 -17082",
            "d83faae15a506a4923914b0f5088895995a91c85e7356a1a50bab485f6dd4ec6e4", -974676539);
        Rows.encoded("p(0) is SIZE(p(1)) at j = 4; p(0) is SIZE(p(1)) - 1 at j = 5",
            "bump 2 61 43 12740",
            "d83fa7e15a504449248e373054c1856a52391b8000475cc6791b502048e372391c", -961317715);
        Rows.encoded("p(0) is SIZE(p(1)) + 1 at j = 4",
            "bump 2 85 44 -13150",
            "d83fa7e15a500049249249247da138a547627554a0f4eb7a976380c0e86d6db91b", 1250169653);
        Rows.encoded("p(0) is SIZE(p(1)) at j = 5",
            "bump 4 97 67 25737",
            "dabd00815a5061c92492492f55c75bb6ffffff50a67dad6d224894050000009293", -203892339);
        Rows.encoded("p(0) is SIZE(p(1)) + 1 at j = 5",
            "bump 4 80 79 1594",
            "dabd00815a5060c92492c96f55c0fb2c92391b7a2048db491652a600125249b6e3", 1413494295);
        Rows.encoded("p(0) is SIZE(p(1)) - 1 at j = 6",
            "bump 7 74 80 12277",
            "d5bf66bd5a502b471558758e522af71c71c71c82219ae28e0aabd441458c5516e3", 1073472864);
        Rows.encoded("p(0) is SIZE(p(1)) at j = 6; p(0) is SIZE(p(1)) at j = 7",
            "bump 4 83 78 673",
            "dabd0083da50604924924b2e55c069248ec8e37d20491c6db6dbac8036db6e36db", 1545056417);
        Rows.encoded("p(0) is SIZE(p(1)) - 1 at j = 7",
            "bump 7 62 87 -19593",
            "d5bf8cffda5033aa78e38a695231071c71c71c9a244a71e3bcf7e204e1c71d65f5", 679921523);
        Rows.encoded("p(0) is SIZE(p(1)) + 1 at j = 7",
            "bump 7 61 79 405",
            "d5bf9cfbba502145563875955441771b9247249a40492371b71bb40039239246db", 756057150);
        Rows.encoded("p(0) is SIZE(p(1)) - 1 at j = 8",
            "bump 4 83 34 4149",
            "dabb30c3aa5000492492492455c1b6dcbb7fff52c1ffb58da4925440249b6db923", -1551093984);
        Rows.encoded("p(0) is SIZE(p(1)) at j = 8",
            "bump 1 71 63 179",
            "dff37556bf5040492369b8db72e038d26dc6da8ac036d36e38db8c2036e4924924", -1552436477);
        Rows.encoded("the bound, not one off",
            "bump 1 78 65 -29958",
            "dffbfae15a5066c92371b6df51250b2391c7137c82099b50cae29e215bb5664923", -392361243);
        Rows.encoded("the bound, not one off",
            "bump 2 68 82 -364",
            "d83fd5a15a504048dc8d66dd528028e371c6db9ec0371b71b71be64036e38db723", 717195074);
        Rows.encoded("the bound, not one off",
            "bump 6 70 87 29254",
            "daa6f80802506f48f58f673851ce0bd1bd0b83592f5ecb88b693600560894d291b", 505816214);
    }

    private static void topIsZero() {
        Rows.encoded("p(1) is 0, p(0) is not at j = 1; p(1) is 0, p(0) is not at j = 3; p(1) is 0, p(0) is not "
                + "at j = 5; p(1) is 0, p(0) is not at j = 7",
            "0 0 51, 59 -6 2, 0 0 107",
            "d82aa4621b5000492492492455c036fb6db6db5000491b92492450004924924924", 1549081794);
        Rows.encoded("p(1) is 0, p(0) is not at j = 2",
            "bump 0 86 42 -1296",
            "d020fd7ae85000492492492479a047137147248aa04b249236db8a0038eb9248db", 2136767198);
        Rows.encoded("p(1) is 0, p(0) is not at j = 4",
            "30 3 53, 137 -3 107",
            "d2d662d528500059259249245d2048d98db6db7c4036db71b6db982036db6e36db", -486431313);
        Rows.encoded("p(1) is 0, p(0) is not at j = 6",
            "bump 8 98 65 -7406",
            "d800afe157504049249248e29a4026524524d47cc026eab257a4c02038e36d44db", 2097326686);
        Rows.encoded("p(1) is 0, p(0) is not at j = 8",
            "bump 7 93 15 -34",
            "d5f5d4e6fa5000492492492450204924924923da40371b8db72450004924924924", 2140482099);
    }

    private static void bottomIsZero() {
        Rows.encoded("p(0) and p(1) are 0 at j = 3; p(0) is 0, p(1) is not at j = 4",
            "bump 1 62 55 -28914",
            "dfffa2e15a506cc8dc71c91f510c86e471c6dc58c30d2491b924a001f91b8e3923", 928124367);
        Rows.encoded("p(0) is 0, p(1) is not at j = 3",
            "bump 1 95 75 432",
            "dfffa2e15a502049249234db56c0371b71b75b50c038dc9246dc8c2036db6e3714", -1040749464);
        Rows.encoded("p(0) and p(1) are 0 at j = 4; p(0) is 0, p(1) is not at j = 5",
            "bump 4 90 74 18509, bump 1 83 75 1366",
            "dfcf02e15a70203925b25ee3b400e924924924e8406b6cb2489bbe6036db4db6db", -1400150863);
        Rows.encoded("p(0) and p(1) are 0 at j = 5; p(0) is 0, p(1) is not at j = 6",
            "bump 3 83 36 -1943",
            "d83fa7e15a5000492492492495c048d562665c688016dc6e4722780038e4924924", -2001909994);
        Rows.encoded("p(0) and p(1) are 0 at j = 6; p(0) is 0, p(1) is not at j = 7",
            "bump 7 87 43 -16567",
            "d5bf5ffd5a5000492492492489c348f1e38e305222739571c7567801ae6b71c71c", -459429211);
        Rows.encoded("p(0) and p(1) are 0 at j = 7; p(0) is 0, p(1) is not at j = 8",
            "bump 4 83 78 673",
            "dabd0083da50604924924b2e55c069248ec8e37d20491c6db6dbac8036db6e36db", 1545056417);
        Rows.encoded("p(0) and p(1) are 0 at j = 8",
            "bump 6 70 87 29254",
            "daa6f80802506f48f58f673851ce0bd1bd0b83592f5ecb88b693600560894d291b", 505816214);
    }

    private static void mostOfAll() {
        Rows.encoded("32768 is brought to 32767 at j = 2",
            "bump 1 95 75 432",
            "dfffa2e15a502049249234db56c0371b71b75b50c038dc9246dc8c2036db6e3714", -1040749464);
        Rows.encoded("32768 is brought to 32767 at j = 3",
            "bump 1 78 65 -29958",
            "dffbfae15a5066c92371b6df51250b2391c7137c82099b50cae29e215bb5664923", -392361243);
        Rows.encoded("32768 is brought to 32767 at j = 4",
            "bump 1 99 87 -234",
            "dfeec7e15a502049236db6e3526024946cb8db642018db89b71b6e8028db4e345b", -937908563);
        Rows.encoded("32768 is brought to 32767 at j = 5",
            "bump 4 97 67 25737",
            "dabd00815a5061c92492492f55c75bb6ffffff50a67dad6d224894050000009293", -203892339);
        Rows.encoded("32768 is brought to 32767 at j = 6",
            "bump 4 83 78 673",
            "dabd0083da50604924924b2e55c069248ec8e37d20491c6db6dbac8036db6e36db", 1545056417);
        Rows.encoded("32768 is brought to 32767 at j = 7",
            "bump 6 70 87 29254",
            "daa6f80802506f48f58f673851ce0bd1bd0b83592f5ecb88b693600560894d291b", 505816214);
        Rows.encoded("32768 is brought to 32767 at j = 8",
            "bump 1 71 63 179",
            "dff37556bf5040492369b8db72e038d26dc6da8ac036d36e38db8c2036e4924924", -1552436477);
    }

    private static void byWhatThereWas() {
        Rows.encoded("M of just a half",
            "bump 1 71 63 179",
            "dff37556bf5040492369b8db72e038d26dc6da8ac036d36e38db8c2036e4924924", -1552436477);
        Rows.encoded("M of just below a half",
            "bump 3 68 52 64",
            "d83febb40b5020492491b71b798036db6db6db6e0036db8dc6e450004924924924", -892352640);
        Rows.encoded("M of just below a half",
            "-6 0 40, -237 -1 120",
            "d35779d8d9500036db6db724510189239246db680046e46dc6dbc80036da6e36e3", -1384144443);
    }
}

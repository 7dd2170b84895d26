/** Terms: e, FILTERED and GRID. */
public final class TermsGridTest {
    public static void main(String[] args) {
        Check.test("terms, GRID: e = CUT(d - w)", TermsGridTest::cutOfE);
        Check.test("terms, GRID: sum of H(i) e(k + i - 5)", TermsGridTest::tableH);
        Check.test("terms, GRID: CUT((the sum, and 4096) >> 13)", TermsGridTest::cutOfX);
        Check.test("terms, GRID: the first with the greatest sum", TermsGridTest::theFirstGrid);
        Check.end();
    }

    private static void cutOfE() {
        Rows.encoded("e is 32767",
            "129 -13380 160",
            "d967f7d4da501d2aa3553ee4631938e9a9d11fbc33e995498601639408d55228dc", -1582716203);
        Rows.encoded("e would be 32768",
            "3* -32768 0 160, 2 -34821 160",
            "dd609b1d9bbd9d66e3d248fc65ddb7d58e571b5f1ce9233dc72cc1f695d5aec498", -144406772);
        Rows.encoded("e would be above 32768",
            "32767 -87 40, 29531 426 53, -5247 1879 16, -2709 398 16, 22718 1999 16, -14771 -1362 19",
            "d79e9aa159501c7b6db6d924525f481b6db6db7ad40056bae766a7df491c91b6fc", 728864978);
        Rows.encoded("e is -32768",
            "2 -52151 160",
            "d967f7d4da501d555caac11b5939b5948b3823bc74a71d974fbd63b044d63d4cbc", -1509555577);
        Rows.encoded("e would be -32769; e would be below -32769",
            "9* 32767 0 160, -478 46739 160",
            "d9ecc95740a5fdab2450c8a05a9b66204f085984f895041128617115e8625050c2", -2078544651);
        Rows.encoded("e is CUT at both ends",
            "18* 32767 0 160, 1275 24002 80, 8191 0 27, 3864 0 40, -8192 -508 13",
            "dae962d060ef9aace56da8e0695dc12a320968503af89b6db4dba23a36d36da092", -605140469);
        Rows.encoded("e is CUT at both ends",
            "-32768 0 53, 17850 0 16, 11067 0 40, 32767 -16293 27, -32129 -138 20, -32243 16564 4",
            "d8e4c0a590501c84924924db723eb6dfb1c9247add4924924a14b1fec923363904", 188748425);
    }

    private static void tableH() {
        Rows.encoded("H(0), not one off; H(1), not one off; H(2), not one off; H(3), not one off; H(4), not "
                + "one off; H(5), not one off; H(6), not one off; H(7), not one off; H(8), not one off; H(9), "
                + "not one off; H(10), not one off",
            "-488 -1393 40, 471 0 120",
            "d7df9ae11a501eb6db6df924501389249216db701086db924924c01086db924924", 451852408);
        Rows.encoded("H(0), not one off; H(2), not one off; H(4), not one off; H(6), not one off; H(8), not "
                + "one off; H(9), not one off; H(10), not one off",
            "547 -64610 80, 834 -18126 53, 869 -35276 27",
            "daa6e19a51505fc924925b415e38044a4dc9256cbc32e759b791529d48f2cd2ed2", -841640979);
        Rows.encoded("H(1), not one off; H(3), not one off; H(7), not one off",
            "18* 32767 0 160, 1275 24002 80, 8191 0 27, 3864 0 40, -8192 -508 13",
            "dae962d060ef9aace56da8e0695dc12a320968503af89b6db4dba23a36d36da092", -605140469);
        Rows.encoded("H(5), not one off",
            "-14 -1778 160",
            "d7dfa2e15a503eb6db5e48db5a3eb6dbf236db95b3347e28fd5bdfb2a3f127eada", 611790951);
    }

    private static void cutOfX() {
        Rows.encoded("x is 32767",
            "-32768 356 80, -11655 -580 53, -26495 -349 27",
            "d75e929d1a501c06db6db6db500cd0012926dca0bf46db6db6df6b3fb92191b7e4", 1300135429);
        Rows.encoded("x would be 32768",
            "-27035 0 80, 32767 0 40, 32767 -10188 40",
            "d861ab2409501b84d24db6db54311000000000ae1ffae49249249f3ca1de4e56aa", -201738233);
        Rows.encoded("x would be above 32768",
            "-32768 189 80, -32768 -3 80",
            "d6da79d8d9501c06db6db6db5a4b1e92492493a0bff6e4924924524f1fedbadb6d", 1698306199);
        Rows.encoded("x is -32768",
            "15486 -60176 20, -2363 42354 53, -32768 -183 27, 32767 860 16, 13431 406 44",
            "da28736121503e612e1248db8b3fbadb7236bdc2bfc9248c34e67a57edb6dbffff", 1048851244);
        Rows.encoded("x would be -32769; x would be below -32769",
            "-32768 12715 53, 32767 255 20, 22209 -39512 27, 18979 14885 40, 12978 39249 16, -32768 0 4",
            "da66d558da501b8e7274d4e7549fc71c0124b368fd352c8367e994ff2b5e91b701", -1836703678);
        Rows.encoded("4096, not one off",
            "-20 -5 40, 38 -1 80, -229 0 40",
            "d61b821cd9502024892894895401f6dc924924aa2048e371c8e3dc0108db6db6db", -859252891);
        Rows.encoded("4096, not one off; >> rounds down, by so many",
            "-350 1 120, 653 -2 40",
            "d61a8218d9500286db6db6db5a403ad34da693a24046d34da693b886f6e4924924", 195315073);
    }

    private static void theFirstGrid() {
        Rows.encoded("one below the greatest at GRID 1; one above the greatest at GRID 3",
            "28 0 40, 43 1 120",
            "d2188a19185000592492492451a026db6db6db8a60492371c6e3ea2038e47248e4", 1519024604);
        Rows.encoded("the greatest again at GRID 1; one above the greatest at GRID 1; one below the greatest "
                + "at GRID 2; the greatest again at GRID 2; one above the greatest at GRID 2; one below the "
                + "greatest at GRID 3; the greatest again at GRID 3",
            "-4 0 80, -8 -1 80",
            "d298822120500036db924924500049249249248a2038e47238e4504048e471c8e3", 466885252);
    }
}

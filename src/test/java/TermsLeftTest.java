/** Terms: WHAT IS LEFT of x. */
public final class TermsLeftTest {
    public static void main(String[] args) {
        Check.test("terms, WHAT IS LEFT: o = CUT(u + M(r(j), d))", TermsLeftTest::cutOfO);
        Check.test("terms, WHAT IS LEFT: d = CUT(d + M(r(j), u))", TermsLeftTest::cutOfD);
        Check.end();
    }

    private static void cutOfO() {
        Rows.encoded("M of just a half; o is 32767; o would be above 32768; o is -32768; o would be below "
                + "-32769",
            "-32768 0 160, -32768 0 160, 23117 16964 160",
            "d9eaf99919ab9a7b92d725737dbcca2c91c78c7537ff1ff60b64abb6ff4d7ab321", 1028072531);
        Rows.encoded("M of just below a half",
            "-69 0 80, 6 251 80",
            "d0a0a2e15a5000069b6db6db5800492492492453a27b6db6db6d54a16bb6ffffff", 1646521545);
        Rows.encoded("o would be 32768",
            "-1557 489 40, -32768 -53755 40, 32767 0 27, 7429 453 53",
            "d963c418115053c96ddb6fff6abd8eeb52b35b849ffae49246ac74556fb7bbffff", -1390067455);
        Rows.encoded("o would be -32769",
            "4* -32768 0 160, 28919 38800 27, -5176 899 27, 291 0 106",
            "dae58404ca7b987e3175416d54995b7412c9646830edb5baefb6b6515b6db6fd75", 244342291);
        Rows.encoded("o is CUT at both ends",
            "-10936 38885 120, -21142 -315 40",
            "db6795ccd25018d361a3bc6b629bb8d4ea46da77dc73228d4714cdff869a6d26a7", 1099445582);
        Rows.encoded("o is CUT at both ends",
            "-7 48919 80, 7 -65079 80",
            "d9a9f81d61505978a58dd8dc8fd8c6db4db5c693b58ca6ceff77933e492db6ba03", -752458589);
    }

    private static void cutOfD() {
        Rows.encoded("M of just a half; d is 32767; d would be 32768; d would be above 32768; d is -32768; d "
                + "would be -32769; d would be below -32769",
            "9* -32768 0 160, -8 26549 40, -8 0 80, 5 21247 40",
            "daaa82d4c2c9b93a79cbbee654567baebadb757652fffffffffeed5d38e39e291c", -755562836);
        Rows.encoded("M of just below a half",
            "bump 7 96 82 -89",
            "d5befe25fc502049248db6db7d80372496471c5a4046dc7236e3a320491c8dc924", 1378843605);
        Rows.encoded("d is CUT at both ends",
            "32767 0 160, 32767 0 160, -16384 -43386 20, 6069 -776 20, 8951 -232 13, 16383 39947 16, "
                + "15782 4073 4, -15293 0 10, -16384 796 10, 11755 2214 5, -1219 0 10, 12029 967 10, -2484 0 "
                + "13, -7627 -63122 10, 2564 -25874 13, 11937 2569 4, -8814 0 2",
            "daaa83255bcbb67bb4d1b4487dbfd71c699b02585c129765bd2a9afb2495a68f68", -239614965);
        Rows.encoded("d is CUT at both ends",
            "21* -32768 0 160, 16383 0 10, -3552 15719 150",
            "d967f84c529d9be71ad92f6c6dffb92c7244e7b31c251c92f36265794bdc7245d9", 750652027);
        Rows.encoded("d is CUT at both ends",
            "9* 32767 0 160, -478 46739 160",
            "d9ecc95740a5fdab2450c8a05a9b66204f085984f895041128617115e8625050c2", -2078544651);
    }
}

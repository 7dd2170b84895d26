/** Terms: HEIGHT, OF A HEIGHT and PULSE. */
public final class TermsHeightTest {
    public static void main(String[] args) {
        Check.test("terms, HEIGHT: E is the number of i with S >> (9 + i) above 0", TermsHeightTest::powersOfTwo);
        Check.test("terms, HEIGHT: SIZE of -32768", TermsHeightTest::sizeOfTheLeast);
        Check.test("terms, HEIGHT: OF A HEIGHT", TermsHeightTest::ofAHeight);
        Check.test("terms, HEIGHT: PULSE: (L(x << (6 - E), R(N)) >> 12) + 4", TermsHeightTest::tableR);
        Check.end();
    }

    private static void powersOfTwo() {
        Rows.encoded("S is 0; S is 1; S is 4",
            "-8 0 160",
            "d2577a1cda500036db924924500049249249245000492492492452004924924924", 843132600);
        Rows.encoded("S is 32767",
            "1323 -7409 160",
            "d8a3bbf2bf505c9e974ba552589ff91c8e47237d5ac11972c722e6dac8642d96fc", -32316998);
        Rows.encoded("S is 2",
            "-69 0 80, 6 251 80",
            "d0a0a2e15a5000069b6db6db5800492492492453a27b6db6db6d54a16bb6ffffff", 1646521545);
        Rows.encoded("S is 3; S is 5",
            "1 -1 160",
            "d1d8825d58502036dc6db91b6000391c8e371c7000371c8e391c7e00391c8e391c", 670269776);
        Rows.encoded("S is 7; S is 9",
            "-197 10 160",
            "d119926519500108db92492450004924924924a0204924924924f020596c92492c", 61019094);
        Rows.encoded("S is 8; S is 32",
            "10 1 80, 26 0 40, 16 0 40",
            "d59b71d8905000492492c9245780471b8db71b8680a72492492450004924924924", -1605699686);
        Rows.encoded("S is 15",
            "-28 0 160",
            "d41871d8d1500026db6db6db500036db6db6dba20036db6db6dbf00036db6db6db", 1362234455);
        Rows.encoded("S is 16",
            "-30 0 120, 27 2 40",
            "d51971a119500026db6db6db500036db6db6dba20036db6db6dbd400771c924924", -1741064124);
        Rows.encoded("S is 17; S is 127",
            "-509 2 40, -155 0 120",
            "d61a8218d9500406db6db6db5a01f6db6db6dba22066db6db6dbf00066db6db6db", -1011059139);
        Rows.encoded("S is 31",
            "-58 0 160",
            "d41871d8d1500006db6db6db562046db6db6dba04036db6db6dbf04036db6db6db", -1992174535);
        Rows.encoded("S is 33",
            "1325 -16 160",
            "d55979d8d950097924924924500116db6db6db56a0249224904854a0a491492491", 309162326);
        Rows.encoded("S is 63",
            "-136 193 160",
            "d060a2e15a5045edfedfeb6d5220ed6ddaddffa020edb6fb6ffff0216daedb6df7", -291393239);
        Rows.encoded("S is 64",
            "-10 -17 53, 696 -3 107",
            "d69c8a1cd9504124924492495229b6df6dc9245020edb1db5b6d8a409db4924b24", -1785447294);
        Rows.encoded("S is 65",
            "bump 6 87 71 -2763",
            "daa6f808075060c9246da6c651e1b64264364f618408d272392c5cc15b24d65b24", 236378903);
        Rows.encoded("S is 128",
            "-3427 0 160",
            "d3d871d8d9500e86db6db6db5e2247db6db6dba22276db6db6dbf00276db6db6db", 1342018065);
        Rows.encoded("S is 129",
            "91 -51 40, 1888 0 80, 20 0 40",
            "d69c8a1cd95062a449200001500f76e492492450021fedb6db6d948a091b6db6db", -934927920);
        Rows.encoded("S is 255",
            "-470 -26 80, 1686 19 80",
            "d59a8218d95003849249249254e0c249208001a40ff6dc92492452219ffedb6db6", 1972555037);
        Rows.encoded("S is 256",
            "0 0 1, 348 97 5, 0 0 154",
            "d820a3351a50045e639249245000219c6db6db5000492492492450004924924924", 2106751793);
        Rows.encoded("S is 257",
            "bump 7 76 49 -30904",
            "d5bf57e15a5064492492474653458c38e38c738e02f5238e38e48400bb1655471b", -1035110367);
        Rows.encoded("S is 511",
            "-14004 32 160",
            "d49879d8d1501686db6db6db6207d8fb6db6dba44876db724924f008f924924924", 1822678547);
        Rows.encoded("S is 512",
            "3373 -6 53, 6383 0 107",
            "d35771d8d9500e79249249246ba83724052492a4418924924924f0018924924924", -773102628);
        Rows.encoded("S is 513",
            "942 -7 120, 292 -7702 40",
            "d8a3bbf27b50087bb5db6dff50c87fb6db6b6d50a1db76db4640cd9cb1958d359a", 445523929);
        Rows.encoded("S is 1023",
            "25614 43 160",
            "d35771d8d9501a7924924924620b2704924924a22b8924924924f00b8924924924", -1112835455);
        Rows.encoded("S is 1024",
            "12550 0 120, -32397 -758 40",
            "d9a089d89150177b25924924562c6dffffffffa62bfdffffffffedddf89b6db6db", -1635502493);
        Rows.encoded("S is 1025",
            "2036 -5 160",
            "d4d879d8d1500c79249249245e212624924924a44108e371c6e3f00106db6db6db", -1996670426);
        Rows.encoded("S is 2047",
            "0 0 105, 4040 -238 5, 0 0 50",
            "d7dfa2f91a500049249249245000492492492453afb6db6df8db6e2036dbdb6db6", -2134396116);
        Rows.encoded("S is 2048",
            "120 22045 160",
            "daba7a5cd950723d9edbdfff567ec92091b6db9cce10512534dcf1105d27b6cf6e", -442313455);
        Rows.encoded("S is 2049",
            "4035 -16 160",
            "d51979d8d1501079249249246042b824924923a00286db6db6dbf00286db6db6db", -18413169);
        Rows.encoded("S is 4095",
            "6644 -78 40, -10648 -17378 120",
            "d9ebfaa21a5013fd6db6db6d63fc35da4bb6d76357c4c8aeb1a6a758222bac6910", -487956086);
        Rows.encoded("S is 4096",
            "49 2290 160",
            "d820a2e562507ec9286dc924739e40db92491cad943ba6e9e79473f4c1226e492a", -2062616227);
        Rows.encoded("S is 4097",
            "32767 62539 160",
            "d820ab2562503e58db4bc8da59bc1ee471b8e35993e10ccd4b4c59f419336a1897", 1391378756);
        Rows.encoded("S is 8191",
            "-128 18566 80, -74 1 80",
            "da2df2e7db5039aca414e9d66cb79eed50c2d068987a946db8e4500a81a4724723", 9409820);
        Rows.encoded("S is 8192",
            "-8 -10684 160",
            "d925d53d1a503a8e38e79eba569de8228e38e36397e3c56eb6dcb9982c708dd6db", 602164304);
        Rows.encoded("S is 8193",
            "-21644 17396 160",
            "d9ebfaa25a503a56658c392663bc091e4dca9c63d87b62d5456b81d5433aa2369b", -1402832334);
        Rows.encoded("S is 16383",
            "1470 50380 160",
            "d9a9fc211d501a2b1d4a70ad695ba93873171d8339a8a88b86e271f8f9bad6db1d", -1571892266);
        Rows.encoded("S is 16384",
            "-411 -42239 160",
            "daf29ba132505cb8dc94c7285d9c377611d89c5b1e4e6391b91b5bf8c9628d56e0", -1298376681);
        Rows.encoded("S is 16385",
            "-29018 -7759 160",
            "d8e3c3f2bd507d43d2c9e4a266bc3d0b72c0dd55595f239346dd99361813ed26ac", -857915622);
    }

    private static void sizeOfTheLeast() {
        Rows.encoded("x is -32768; x is 32767",
            "15486 -60176 20, -2363 42354 53, -32768 -183 27, 32767 860 16, 13431 406 44",
            "da28736121503e612e1248db8b3fbadb7236bdc2bfc9248c34e67a57edb6dbffff", 1048851244);
        Rows.encoded("x is -32767",
            "2578 46591 40, -23333 43961 40, -29803 106 40, 2578 46591 40",
            "da2eba21915059e3446f0bcb97988d1c92496b8c9f82d26924d25adef75caf2b9c", -1656463833);
        Rows.encoded("SIZE of a number below 0",
            "-8 -10684 160",
            "d925d53d1a503a8e38e79eba569de8228e38e36397e3c56eb6dcb9982c708dd6db", 602164304);
    }

    private static void ofAHeight() {
        Rows.encoded("HEIGHT is 14",
            "-1024 -12 160",
            "d2177a1d1a500706d36db6db620056bb71b6dbaa402edc6db6dbf000e6e36db6db", 878569524);
        Rows.encoded("HEIGHT is 15; HEIGHT is 16; N is 9",
            "-14004 32 160",
            "d49879d8d1501686db6db6db6207d8fb6db6dba44876db724924f008f924924924", 1822678547);
        Rows.encoded("N is 7; N is 8",
            "-509 2 40, -155 0 120",
            "d61a8218d9500406db6db6db5a01f6db6db6dba22066db6db6dbf00066db6db6db", -1011059139);
    }

    private static void tableR() {
        Rows.encoded("R(0), not one off",
            "34 -53466 80, -785 -13 80",
            "d966e63962507b8e69d1c165629d25ea7e3274941861226dc6db745226c1289249", 693595095);
        Rows.encoded("R(0), not one off",
            "22* -12670 58095 7, -12670 58095 6",
            "d8a2dd3bc3503c2c79add59d56733f6f7df9b09c14fb33d2d79ef072fb7befcd9d", -1542648700);
        Rows.encoded("R(1), not one off; R(7), not one off",
            "-252 0 120, 230 -2457 40",
            "d7dfa2e15a500204924924da5040a492492252a040a492492252e1deb6d791b6db", -1628853032);
        Rows.encoded("R(1), not one off",
            "245 0 40, 153 35368 80, 63 -8845 40",
            "dbe0bc2ea350227baedb6fff63dc95794fc4b164dc19ca7a2571a8de8ed35966aa", -307523420);
        Rows.encoded("R(2), not one off",
            "bump 3 68 56 -9165",
            "d83faae15a5068492391cb175286099995b8dd6d85542ba16a9da22056266646e2", -1328276138);
        Rows.encoded("R(2), not one off",
            "547 -64610 80, 834 -18126 53, 869 -35276 27",
            "daa6e19a51505fc924925b415e38044a4dc9256cbc32e759b791529d48f2cd2ed2", -841640979);
        Rows.encoded("R(3), not one off; R(7), not one off; 4, not one off; >> rounds down, by so many; L "
                + "rounds down",
            "-2845 -41 160",
            "d2177a1d1a500d06d36db6db58215edc6db6dba8212edc69b4d2f001f6e36db6db", 149791296);
        Rows.encoded("R(3), not one off",
            "-182 -5 53, 221 -7587 80, 92 0 27",
            "d8a3c432be5045369a49200055bdb6db165b146b7c16fd8e489d8cdbd6e60e4724", -466669119);
        Rows.encoded("R(4), not one off",
            "120 22045 160",
            "daba7a5cd950723d9edbdfff567ec92091b6db9cce10512534dcf1105d27b6cf6e", -442313455);
        Rows.encoded("R(4), not one off",
            "1080 86 40, -4014 63496 53, 1718 2 67",
            "d820a2e1da502beb6edb7fff6dfe36979236db643e25e3923924862f9724b6dd84", 2051386408);
        Rows.encoded("R(5), not one off",
            "bump 8 61 84 3858",
            "d840a2261d50037bbfdb6d6d5060664a44944ae620244a492482e62012524924db", 915690351);
        Rows.encoded("R(5), not one off",
            "-488 -1393 40, 471 0 120",
            "d7df9ae11a501eb6db6df924501389249216db701086db924924c01086db924924", 451852408);
        Rows.encoded("R(6), not one off",
            "-10671 -12397 40, -23276 55540 16, 28792 -299 16, 8213 -31445 16, -9377 -101 27, -32768 "
                + "-60809 45",
            "da21d3e522505bf18d8b8a6c5edf631afada948cda6a09691400aadf5ccbd81969", -1814509235);
        Rows.encoded("R(6), not one off",
            "-32768 189 80, -32768 -3 80",
            "d6da79d8d9501c06db6db6db5a4b1e92492493a0bff6e4924924524f1fedbadb6d", 1698306199);
    }
}

/** Terms: the FILTER numbers. */
public final class TermsFilterNumbersTest {
    public static void main(String[] args) {
        Check.test("terms, FILTER numbers: h >> 1 below 22118", TermsFilterNumbersTest::below22118);
        Check.test("terms, FILTER numbers: h - 11059 below 31130", TermsFilterNumbersTest::below31130);
        Check.test("terms, FILTER numbers: L(A, that)", TermsFilterNumbersTest::tableA);
        Check.test("terms, FILTER numbers: + B, + 256, >> 9", TermsFilterNumbersTest::tableB);
        Check.test("terms, FILTER numbers: brought between LEAST and MOST: LEAST", TermsFilterNumbersTest::least);
        Check.test("terms, FILTER numbers: brought between LEAST and MOST: MOST", TermsFilterNumbersTest::most);
        Check.end();
    }

    private static void below22118() {
        Rows.encoded("h is 22117",
            "10050 -17741 160",
            "d9ecfae2da505b332459c5e263fa8d22eccb4561b5de18f1b9d595b9209b86271a", 696832172);
        Rows.encoded("h is 22118",
            "bump 5 61 79 31894",
            "dabffae15a5072c92392571f549486db71b6e36aca37179258eda6068b2491c923", 1102349892);
        Rows.encoded("h is 22119",
            "bump 8 84 72 -5",
            "db8b5994d15060491c9236db500049249249245000492492492475c036e36db6db", 252816817);
        Rows.encoded("11059, not one off",
            "11574 133 160",
            "d2577a1d1a5015792c9249245c05282472496da0058b5db6db6df0058b5db6db6d", -716345048);
        Rows.encoded(">> rounds down, by so many; SIZE of a number below 0",
            "1 -1 160",
            "d1d8825d58502036dc6db91b6000391c8e371c7000371c8e391c7e00391c8e391c", 670269776);
        Rows.encoded(">> rounds down, by so many",
            "0 0 40, -1788 7709 2, 0 0 118",
            "db28d3ede35000492492492453b178dc6db6db5023872392492450003724924924", -1444765530);
    }

    private static void below31130() {
        Rows.encoded("h is 31129",
            "bump 7 64 54 3673",
            "d5bf5fbd5a5022c92471658f5023f71c71c7239a201a6aa9b8d85020471c71c71c", -1833352105);
        Rows.encoded("h is 31130",
            "1 -1 160",
            "d1d8825d58502036dc6db91b6000391c8e371c7000371c8e391c7e00391c8e391c", 670269776);
        Rows.encoded("h is 31131",
            "bump 7 61 12 -3016",
            "d5f95fcfec5000492492492451c236e8c9c6d55040491d52392350004924924924", -1719644125);
        Rows.encoded("26112, not one off",
            "bump 7 61 25 751",
            "d5be5ffeaf500049249249245380282a91c7235800575c924924500038e4924924", -591574463);
    }

    private static void tableA() {
        Rows.encoded("A(0), not one off",
            "-26051 49602 160",
            "d9e9fb611b507aa9a3b838d554fd4b2509c6e55b7e49204ec92b95d4a94671ec6c", -377388264);
        Rows.encoded("A(0), not one off",
            "11574 133 160",
            "d2577a1d1a5015792c9249245c05282472496da0058b5db6db6df0058b5db6db6d", -716345048);
        Rows.encoded("A(1), not one off; L rounds down",
            "-1607 11 160",
            "d59979d8d9500a06db6db6db5e20c7db6db924a441692492492450a04b24b2db6d", -1157253438);
        Rows.encoded("A(1), not one off",
            "bump 1 99 87 -234",
            "dfeec7e15a502049236db6e3526024946cb8db642018db89b71b6e8028db4e345b", -937908563);
        Rows.encoded("A(2), not one off",
            "bump 8 86 39 -4099",
            "d7c0bfe6505000492492492493c048d12cb2e27cc0496595baa38c003964924924", -1864254791);
        Rows.encoded("A(2), not one off; L rounds down",
            "1038 7 40, 3348 -12445 80, 1597 0 40",
            "d966e6ed62502c6b6db6edff55dcbc1596d0ab755d40a3b5a6dc9639f724925924", -306068565);
        Rows.encoded("A(3), not one off",
            "bump 7 61 79 405",
            "d5bf9cfbba502145563875955441771b9247249a40492371b71bb40039239246db", 756057150);
        Rows.encoded("A(3), not one off",
            "bump 5 81 64 -31",
            "dabf9254d1502049246db6db500048e46dc9249600492492371cd62046db6db8e4", 2053923988);
        Rows.encoded("A(4), not one off",
            "8048 57550 160",
            "d8e3c436f9507c1e5e35acde56fbc0e472492553970c2b51c8ec95b5722a4d665a", 754168943);
        Rows.encoded("A(4), not one off; L rounds down",
            "0 0 133, -12453 -6082 9, 0 0 18",
            "d8a3bc69a35000492492492450004924924924500049249249247bdc3718f636e3", 1353686511);
        Rows.encoded("A(5), not one off",
            "bump 7 93 15 -34",
            "d5f5d4e6fa5000492492492450204924924923da40371b8db72450004924924924", 2140482099);
        Rows.encoded("A(5), not one off; L rounds down",
            "bump 4 67 50 159",
            "dabc0882615060492492491c5480392492391b828036db91c71b500049246e3924", 189825846);
        Rows.encoded("A(6), not one off; L rounds down",
            "22980 0 80, 7834 0 53, 19472 1656 10, -32768 38135 17, 40* -4 -5 4, 0 -40242 40, 7 0 16, -8 "
                + "1 80, -4 13010 16, -4 0 8",
            "dae9b6a56ab598617a73aa095214faca48a49268301248049249e8d8a4dbe1b423", -155326916);
        Rows.encoded("A(6), not one off",
            "bump 8 69 65 -456",
            "d84092a734500048db6da4d38020372475c9245640492472472484c046e471c6db", 1598197148);
        Rows.encoded("A(7), not one off",
            "750 7070 53, -990 -8016 40, 558 6 67",
            "d8e4c3aebe505d616895ccdd66bab2e23e343ab0daf4b5e6b71b7c2f29f77ecf6d", 1820880802);
        Rows.encoded("A(7), not one off; L rounds down",
            "984 -14 53, -709 -36512 53, 641 64911 54",
            "dca393da0b5008fb6db6c9246ddc492647a3d056dc63d9ed4913825a2452248000", -572948837);
        Rows.encoded("L rounds down",
            "1 0 40, -12 0 80, 51 -1 40",
            "d6dd8adcd950004924924924502036db6db6db520036db6db6dbeb8076e39246dc", 1497151799);
        Rows.encoded("L rounds down",
            "bump 5 96 36 -26",
            "dabd9b1960500049249249249840492491b6e3506046e391b923720036dc8e4924", -894441318);
        Rows.encoded("L rounds down",
            "0 0 71, -1683 0 7, 0 0 82",
            "d7df9aa139500049249249249daac92492481c58430edb6db6ecb440491b6db6d3", 8245858);
        Rows.encoded("L rounds down",
            "-12 1 53, -8 0 107",
            "d75c8258d8500028dc9249246b204b227236dbd80036db6db6db560036db6db6db", 1434479642);
        Rows.encoded("L rounds down",
            "-911 30 53, -55 -98 40, 3626 -34 67",
            "d71d925cd9500786db6e49246b44c92249124091b2b6df8dc9245243fff9bb4924", 379101278);
        Rows.encoded("L rounds down",
            "1 1 80, 1 0 53, 7 -44852 27",
            "da73b2e2215000492492492457e036db6fcbe5b02096e4924924a1fd48e34bc6d3", 1598666769);
    }

    private static void tableB() {
        Rows.encoded("256, not one off; >> rounds down, by so many; B(2), not one off; B(7), not one off",
            "3 -6169 40, 0 0 120",
            "d8a4bbaded507d1ed58d68cd50168d546e46e45008f46b91b71c5060372b72c71a", -1072492579);
        Rows.encoded("256, not one off; B(0), not one off",
            "1 -1 160",
            "d1d8825d58502036dc6db91b6000391c8e371c7000371c8e391c7e00391c8e391c", 670269776);
        Rows.encoded("B(0), not one off; B(5), not one off",
            "18* 32767 0 160, 1275 24002 80, 8191 0 27, 3864 0 40, -8192 -508 13",
            "dae962d060ef9aace56da8e0695dc12a320968503af89b6db4dba23a36d36da092", -605140469);
        Rows.encoded("B(1), not one off",
            "7 0 53, -5 43378 107",
            "dab8a2251a5000492492492451b536e0c92248543eb6fc92492489b4712391c48c", 1876354066);
        Rows.encoded("B(1), not one off",
            "-1607 11 160",
            "d59979d8d9500a06db6db6db5e20c7db6db924a441692492492450a04b24b2db6d", -1157253438);
        Rows.encoded("B(2), not one off",
            "942 -7 120, 292 -7702 40",
            "d8a3bbf27b50087bb5db6dff50c87fb6db6b6d50a1db76db4640cd9cb1958d359a", 445523929);
        Rows.encoded("B(3), not one off",
            "8891 -7731 160",
            "d8e3c432bc505dab176b279a789ce8f42e4903771d394a9240e6893b42dd8d371f", 1570596300);
        Rows.encoded("B(3), not one off",
            "0 0 71, -1683 0 7, 0 0 82",
            "d7df9aa139500049249249249daac92492481c58430edb6db6ecb440491b6db6d3", 8245858);
        Rows.encoded("B(4), not one off",
            "8048 57550 160",
            "d8e3c436f9507c1e5e35acde56fbc0e472492553970c2b51c8ec95b5722a4d665a", 754168943);
        Rows.encoded("B(4), not one off",
            "-12 1 53, -8 0 107",
            "d75c8258d8500028dc9249246b204b227236dbd80036db6db6db560036db6db6db", 1434479642);
        Rows.encoded("B(5), not one off",
            "-911 30 53, -55 -98 40, 3626 -34 67",
            "d71d925cd9500786db6e49246b44c92249124091b2b6df8dc9245243fff9bb4924", 379101278);
        Rows.encoded("B(6), not one off",
            "-1391 46 120, 1289 0 40",
            "d55979d8d9500906db6e492450217db6fb6dbf76a1dbb6df6dfff1898b6491b6db", -1103113543);
        Rows.encoded("B(6), not one off",
            "-58 0 160",
            "d41871d8d1500006db6db6db562046db6db6dba04036db6db6dbf04036db6db6db", -1992174535);
        Rows.encoded("B(7), not one off",
            "0 0 91, 387 0 1, 0 0 68",
            "daa6cbe9a2500049249249245000492492492475c2b6fb6db6db5040490c924924", 453194255);
    }

    private static void least() {
        Rows.encoded("number 1 is LEAST; number 6 would be far below LEAST",
            "bump 0 88 64 14533",
            "d021fae01e5040c92492497750a0dbadb6db23506046da44944ad020249b71c8db", -886932143);
        Rows.encoded("number 1 is LEAST + 1",
            "-136 193 160",
            "d060a2e15a5045edfedfeb6d5220ed6ddaddffa020edb6fb6ffff0216daedb6df7", -291393239);
        Rows.encoded("number 2 is LEAST; number 8 would be LEAST - 1",
            "bump 8 86 39 -4099",
            "d7c0bfe6505000492492492493c048d12cb2e27cc0496595baa38c003964924924", -1864254791);
        Rows.encoded("number 2 is LEAST + 1; number 6 would be LEAST - 1",
            "bump 8 65 30 14419",
            "d7c1c7d0285040c92492492755a17dfeae22485a2095235247249a00369b724924", 790986779);
        Rows.encoded("number 3 would be LEAST - 1",
            "bump 4 80 60 15784",
            "dabd0083c75064c92492496f55c3fb76db6da565a358ca488000a683849b492493", 663832137);
        Rows.encoded("number 3 is LEAST",
            "bump 4 100 55 -15963",
            "dabd0083445000492492492471c4c8db4912485124004a4dcb7671857fffff6d6d", -204420211);
        Rows.encoded("number 3 is LEAST + 1",
            "bump 4 67 50 159",
            "dabc0882615060492492491c5480392492391b828036db91c71b500049246e3924", 189825846);
        Rows.encoded("number 3 would be far below LEAST; number 4 is LEAST + 1; number 5 would be far below "
                + "LEAST",
            "bump 4 94 72 442",
            "dabd0043da506049249249245ba0471c71c91c7ba048e472471ce38036db6db6dc", 1974360766);
        Rows.encoded("number 4 would be LEAST - 1",
            "-7 48919 80, 7 -65079 80",
            "d9a9f81d61505978a58dd8dc8fd8c6db4db5c693b58ca6ceff77933e492db6ba03", -752458589);
        Rows.encoded("number 4 is LEAST; number 6 is LEAST + 1; number 7 would be far below LEAST",
            "bump 6 63 31 160",
            "daa6f80c4550004924924924518048e56e469b560038dc723724b200491b8db8dc", 310484174);
        Rows.encoded("number 4 would be far below LEAST",
            "bump 6 85 68 8704",
            "daa6f808075062c92492593951e639749bc9b0618a772d8dc6935cc2a4a305a4db", -2049545111);
        Rows.encoded("number 5 would be LEAST - 1; number 6 is LEAST; number 7 is LEAST + 1; number 8 is LEAST "
                + "+ 1",
            "-24186 38906 53, 26660 0 107",
            "db258500095039d54b66f4aa70df38dfaa49245052ebb39eeb75863239eebb5db6", -1894636708);
        Rows.encoded("number 5 is LEAST",
            "bump 8 83 8 1168",
            "d592fd80b15000492492492455c136db6db6e754807429ee49235000391c724923", -1836440525);
        Rows.encoded("number 5 is LEAST + 1",
            "-22 12913 80, 5 -64589 80",
            "d966e5c49a505a2a3354c6a754d1f7b8ea6394d7dfbb24925b00a516f28b4e3b6e", -1517492474);
        Rows.encoded("number 7 would be LEAST - 1; number 8 would be far below LEAST",
            "3* 32767 0 160, 3 -28125 40, 0 0 20, 3 0 100",
            "dba38c56c0b1d97529ae4345535906d44d28a35e31100000800182309000200000", -788028001);
        Rows.encoded("number 7 is LEAST; number 8 is LEAST",
            "16735 0 120, -3105 10188 40",
            "d8e4cbf0005018fb6db6db6d52eeffffffffffa630ffffffffffd93d3153c5bc9a", -2063498771);
    }

    private static void most() {
        Rows.encoded("number 1 is MOST - 1",
            "-1 32768 160",
            "df94619491503a7923924724506bfd75b6eb6da409516df6dbedf0298b6fb6df6d", -1476745517);
        Rows.encoded("number 1 is MOST",
            "bump 1 75 13 485",
            "dffda2e15a500049249249248da0492491b71bada036e36db6db50004924924924", -2097541961);
        Rows.encoded("number 1 would be MOST + 1; number 4 would be far above MOST",
            "bump 1 99 87 -234",
            "dfeec7e15a502049236db6e3526024946cb8db642018db89b71b6e8028db4e345b", -937908563);
        Rows.encoded("number 2 is MOST - 1; number 3 is MOST; number 7 would be MOST + 1",
            "bump 7 96 82 -89",
            "d5befe25fc502049248db6db7d80372496471c5a4046dc7236e3a320491c8dc924", 1378843605);
        Rows.encoded("number 2 is MOST",
            "bump 3 68 52 64",
            "d83febb40b5020492491b71b798036db6db6db6e0036db8dc6e450004924924924", -892352640);
        Rows.encoded("number 2 would be MOST + 1; number 5 is MOST; number 6 would be MOST + 1; number 7 would "
                + "be far above MOST",
            "bump 7 74 75 570",
            "d5bf8cfffa5020c71c55658e5441671c71c9248420392492b8dcd80046e37248e3", -200905865);
        Rows.encoded("number 3 is MOST - 1; number 4 is MOST",
            "2 -52151 160",
            "d967f7d4da501d555caac11b5939b5948b3823bc74a71d974fbd63b044d63d4cbc", -1509555577);
        Rows.encoded("number 3 would be MOST + 1; number 8 is MOST - 1",
            "2053 -30 40, 1407 51388 120",
            "d968fddd66500cfd6ddb6db6979ba8166fc81e673c40f3863724b13c079c324923", 822715242);
        Rows.encoded("number 3 would be far above MOST; number 8 would be far above MOST",
            "-2 -51076 160",
            "d9a8fd615f503b66341a0d05533bcf648e472388bc34da6d37e3ed35fced5226d3", 1954875866);
        Rows.encoded("number 4 is MOST - 1; number 6 is MOST - 1",
            "bump 8 65 75 -7953",
            "d840af9fa55046b4892400525a0204e4924924a860396df77fedce00d96eb6c924", 1514397027);
        Rows.encoded("number 4 would be MOST + 1",
            "129 13356 120, 240 20 40",
            "d967f7e15a501e455caec0db6ed528ebd6f9fe6dd408db71bb5dbab9f52492491c", 728328492);
        Rows.encoded("number 5 is MOST - 1; number 6 would be far above MOST",
            "2203 9179 120, 3543 0 40",
            "d8e4cc7bda505c5386521a2656188b257546da671b28fd8e38e4e01a53ec96592c", 1487337959);
        Rows.encoded("number 5 would be MOST + 1",
            "bump 2 78 56 82",
            "d83efb3c42502049249246db520048db91c6dc6e4047248db91b6a0038e4724924", 55593400);
        Rows.encoded("number 5 would be far above MOST",
            "-8 -10684 160",
            "d925d53d1a503a8e38e79eba569de8228e38e36397e3c56eb6dcb9982c708dd6db", 602164304);
        Rows.encoded("number 6 is MOST",
            "-24 1 40, -18 19029 120",
            "da2ee2a3d2500016e492492477bcbae58228e57f3ccb0451c8eb7df4daf9a7a6ed", -1828917180);
        Rows.encoded("number 7 is MOST - 1",
            "-411 -42239 160",
            "daf29ba132505cb8dc94c7285d9c377611d89c5b1e4e6391b91b5bf8c9628d56e0", -1298376681);
        Rows.encoded("number 7 is MOST; number 8 would be MOST + 1",
            "-11961 58418 160",
            "d8a3bbee7f503cae974ba5da5c9d692c81b7235df670e395d919a796f09a7148d1", 1431185792);
        Rows.encoded("number 8 is MOST",
            "-6 -36119 120, 6 0 40",
            "dce4a4629f507c35a2592ed862bbe6b47a411b63f556136a171ebc1827d472371b", 894361489);
    }
}

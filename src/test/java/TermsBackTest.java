/** Terms: BACK. */
public final class TermsBackTest {
    public static void main(String[] args) {
        Check.test("terms, BACK: f = 6 - NORM(S 65536), 0 above 6", TermsBackTest::powersOfTwo);
        Check.test("terms, BACK: SIZE of -32768", TermsBackTest::sizeOfTheLeast);
        Check.test("terms, BACK: 40 if none is above 0", TermsBackTest::noneIsAbove);
        Check.test("terms, BACK: the first with the greatest sum", TermsBackTest::theFirst);
        Check.test("terms, BACK: of n = 40 .. 120", TermsBackTest::nearestAndFarthest);
        Check.end();
    }

    private static void powersOfTwo() {
        Rows.encoded("S is 0; S is 1; S is 8; S is 31",
            "1 0 40, -12 0 80, 51 -1 40",
            "d6dd8adcd950004924924924502036db6db6db520036db6db6dbeb8076e39246dc", 1497151799);
        Rows.encoded("S is 32767",
            "2 -52151 160",
            "d967f7d4da501d555caac11b5939b5948b3823bc74a71d974fbd63b044d63d4cbc", -1509555577);
        Rows.encoded("S is 2; S is 65",
            "bump 1 76 44 -2315",
            "dfe0a2e15a506049249248de71a0375c7146db638038d551d75ba400491c91c724", 73443745);
        Rows.encoded("S is 3; S is 4; S is 16",
            "-32 1 160",
            "d2d87a1d18500028db8e47235640491c8e371c5e0047248e4924608049248e4924", 1618588480);
        Rows.encoded("S is 5; S is 64",
            "-126 1 160",
            "d5da79d911500116db6db6db682036dc6e36dca800391b8e471b724039247248e4", -160043500);
        Rows.encoded("S is 7; S is 9; S is 512",
            "-1024 -12 160",
            "d2177a1d1a500706d36db6db620056bb71b6dbaa402edc6db6dbf000e6e36db6db", 878569524);
        Rows.encoded("S is 15; S is 2048",
            "-4091 0 160",
            "d3d871d8d9500f86db6db6db5e2247db6db6dba6023edb6db6dbf00276db6db6db", 375569656);
        Rows.encoded("S is 17",
            "2036 -5 160",
            "d4d879d8d1500c79249249245e212624924924a44108e371c6e3f00106db6db6db", -1996670426);
        Rows.encoded("S is 32; S is 4097",
            "54 1 80, 40 -15640 40, 50 -1 40",
            "d9a9fb255b5000e8e4924b2d55e249239eeffe6fdc972494372356158d236db923", 777644685);
        Rows.encoded("S is 33",
            "0 0 119, -542 -27 1, 0 0 40",
            "daa6cbe9a350004924924924500049249249245064492492492054005ff36db6db", -227655955);
        Rows.encoded("S is 63; S is 8192",
            "-16384 -99 160",
            "d29771d8d9501786db6db6db5e28d7db6db6dba008f6db6db6dbf008f6db6db6db", 431045781);
        Rows.encoded("S is 127",
            "0 0 136, -33 -79 5, 0 0 19",
            "d821b3a962500049249249245000492492492450004924924924838236db62b91b", 558027870);
        Rows.encoded("S is 128",
            "-252 0 120, 230 -2457 40",
            "d7dfa2e15a500204924924da5040a492492252a040a492492252e1deb6d791b6db", -1628853032);
        Rows.encoded("S is 129",
            "-5690 -68 120, 1746 0 40",
            "d5da79d8d9501186d36db6db5c449441000000a6261401000000e89776dc924924", 131626858);
        Rows.encoded("S is 255",
            "bump 6 80 45 -1927",
            "daa6f80c075000492492492351e1b6cb642647548286db72492454207764924b24", -1675961713);
        Rows.encoded("S is 256",
            "-508 6 160",
            "d55979d8d9500406db6db6db762046e37a49245000492c96d96d51c04925925b25", -1193307904);
        Rows.encoded("S is 257; S is 16384",
            "-32766 0 40, 22581 -254 120",
            "d6dc8a5cd9501c06d36db6db601e76e4924924500f8b6491b6dbf00e792b6db6da", 1003053425);
        Rows.encoded("S is 511",
            "110 -718 3, 0 0 157",
            "d928bbe9a250270ce49249245020e51b6db6db5000472492492450004924924924", -1716124164);
        Rows.encoded("S is 513",
            "-1791 0 120, -352 23394 40",
            "daf0aba532502c8491249000552c820024924951491000000048cffbde9cdc49f0", -1829943336);
        Rows.encoded("S is 1023",
            "bump 3 63 16 20864",
            "d83ca7ebda500049249249246be848ba363adb6245771b8e46e3504008e471b91c", -506194867);
        Rows.encoded("S is 1024",
            "0 0 42, -2048 0 3, 0 0 115",
            "d820f2a25a500049249249245bcc09246db6db5041f6db92492450004724924924", 1679790301);
        Rows.encoded("S is 1025",
            "bump 6 85 68 8704",
            "daa6f808075062c92492593951e639749bc9b0618a772d8dc6935cc2a4a305a4db", -2049545111);
        Rows.encoded("S is 2047",
            "bump 4 70 10 11085",
            "dab58a41ef5000492492492455d036db6efb255429e0e49234db50211d1b6dc924", 611764640);
        Rows.encoded("S is 2049",
            "bump 4 68 71 27704",
            "dabd00615a506fc92496cb6f50cd7b6db249237aa8b4d2201249a607029b6db6db", 1434497108);
        Rows.encoded("S is 4095",
            "0 -12918 160",
            "d966efd4da5059d3ccc7bb987036069b51b8ec857b3ae47046dbec32263295777e", 15997570);
        Rows.encoded("S is 4096",
            "-8192 0 160",
            "d3d871d8d9501386db6db6db604447db6db6dba6043edb6db6dbf004f6db6db6db", -1836228929);
        Rows.encoded("S is 8191",
            "-13 0 40, -48 40426 80, 24 -2 40",
            "db2ca5e53a5000492492492455ba9f0bf846165ebd32ed31e6e7621604648dc91b", 884931218);
        Rows.encoded("S is 8193",
            "-32768 0 27, 7601 -1664 16, 11093 -28966 40, 10639 546 40, -29382 -46543 37",
            "dae5c21a82501c8492492f1a737c5c27579dcd7858fd2edb6ff79c9fc15c92351d", -2072986647);
        Rows.encoded("S is 16383",
            "8891 -7731 160",
            "d8e3c432bc505dab176b279a789ce8f42e4903771d394a9240e6893b42dd8d371f", 1570596300);
        Rows.encoded("S is 16385",
            "-411 -27251 160",
            "dbe8a622a1501bab6282ba2c60bc25e15e25e252fd789f8997196b5a38cb8c48c4", -972534121);
    }

    private static void sizeOfTheLeast() {
        Rows.encoded("d is -32768; d is 32767",
            "3* -32768 0 160, 2 -34821 160",
            "dd609b1d9bbd9d66e3d248fc65ddb7d58e571b5f1ce9233dc72cc1f695d5aec498", -144406772);
        Rows.encoded("d is -32767",
            "3* 32767 0 160, 3 -28125 40, 0 0 20, 3 0 100",
            "dba38c56c0b1d97529ae4345535906d44d28a35e31100000800182309000200000", -788028001);
        Rows.encoded("SIZE of a number below 0",
            "-1 0 40, -2 0 53, 1 0 40, 0 32768 20, -2 0 7",
            "de1d8a5d1a50004924924924500049249249245000492492492483dc36e06db72b", -1174090039);
    }

    private static void noneIsAbove() {
        Rows.encoded("a sum is -1, none was above 0; a sum is 0, none was above 0; a sum is 1, none was above 0",
            "-30 0 120, 27 2 40",
            "d51971a119500026db6db6db500036db6db6dba20036db6db6dbd400771c924924", -1741064124);
        Rows.encoded("the bound, not one off",
            "-12 1 53, -8 0 107",
            "d75c8258d8500028dc9249246b204b227236dbd80036db6db6db560036db6db6db", 1434479642);
    }

    private static void theFirst() {
        Rows.encoded("a sum is one below the greatest; a sum is the greatest again; a sum is one above the "
                + "greatest",
            "-197 10 160",
            "d119926519500108db92492450004924924924a0204924924924f020596c92492c", 61019094);
    }

    private static void nearestAndFarthest() {
        Rows.encoded("120, not one off; 40, not one off",
            "40* -32768 0 160, 32767 0 160",
            "d3d871d8d9519c751c924924500e2f6c924924a00d0f34924924f00c8f74924924", 42404422);
    }
}

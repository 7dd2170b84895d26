/**
 * Known answers, made by a well-known C program for the same standard (libgsm 1.0.22) and so not by this project:
 * five frames of each signal, hashes of the encoder's state behind them, and of the last decoded frame's samples
 * and the decoder's state, the frames being whole or damaged.
 */
final class Golden {
    static final Golden[] ROWS = {
        new Golden(new Speech(1, 0, 8), -716211169, 90202280, -347954097, 1683521584, 1847285994,
            "d7dfea5cda503ed9248936d7541c0ddc9149247a1c051b8e372450d3392ca1eb77",
            "d7dfea5cdac9be592491b6d7509c0ddc91c92b789985246aa51bc81585248d396d",
            "d7df9aed1ae3f8c6ef96e82a6215f724936dff5fde4ee485a4925159af2365b6db",
            "d7df9aed1ae29c77249249439675b925bb7ffff19908eb9239245119779c68b492",
            "d7e0a2e19bb0be689a764d43e69dd6db8f4b445add2f259236dd6e9984a372c8db"),
        new Golden(new Speech(2, 0, 2), 391825070, 1658903344, -1710121275, -1905493320, -875203842,
            "d65b821cd95015fb6db0c92450d549248248db518ff6db9236e451c9b4a382b566",
            "d69c8a1cd95187d72577aad251a3dfb7e9c96a51c3b6d284232c5183a6a333d8ca",
            "d9e2a29d19cbbb29248bb6da513a96dc8fc6db50bb97248fc6db9f5aa91ca7b6db",
            "d9e2a29cd99f5aa91ca7b6dc51b698e36bb72351f166aad8e92751d0d52340e519",
            "d71d925d199eb866db7e496d9eb8291b7d492deeb8291b7d492da356d6e49dc91b"),
        new Golden(new Speech(3, 1, 3), 1835197660, 181778360, -829534132, 152250488, 570888166,
            "d61b821d1a501686dc91c8db600c825007b96da0ccdb5b600240790c792495491b",
            "d61b821d1aa1938b2492592dc94812011a392ea0ed36db6412027984772591cb64",
            "d71d8a5cd9a1d636da5db6dba198f6db6d36db79ac78adbe356cf19184da8e4724",
            "d71d925d19a12e848920a249c9e9cfac8e239879aa871b5146dc79c96724e6bb22",
            "d7dfa2e15aa195f9248d48db51147b6c92491b798d9f3462d924c90d0f2b462440"),
        new Golden(new Speech(4, 3, 8), 1190234192, 670464192, 448073873, 1681567504, -2041530607,
            "d79f9aa11a501079236dc92560d449248246dcc8a7e9248d1040a191f91c91b924",
            "d7df9aa11a500bf6db4adb6ea11009248cc723724847249c9002a19276e49248dc",
            "d75e929d1a78c9b6d2509001c9cca6db7db494c9d0c6e462492478c992481c9448",
            "d79e92a11af09076db6db6da79cf46db7eedbfa49387248d36db780b7492492249",
            "d75e929d1af090f6e4924924f152b8db7e4924a0c5efb6dd9440a10ad4090fa725"),
        new Golden(new Speech(5, 4, 2), -1090385658, 1393041648, -807627266, -1308465784, -1840881347,
            "d6dc8a5d19500984924eb92451870d6c91c6e451c337245dc91e5181271dccf953",
            "d71d8a5d1951c0c9095dc73b51e096ed4638d651c0a91a9a492b51802d26a8c71b",
            "d61b8a5d1a5083f6db73c96da0c4c8db7e4924f0c4c8db7e4924518174e48da96d",
            "d65b8a5d1aa18174e48da96df18174e48da96d51c034e37da8de51802b5b4d58db",
            "d7df9aa11a51c736db7db8db518378db6f58e4a18378db6f58e4f18378db6f58e4"),
        new Golden(new Speech(6, 6, 3), 241280268, 1372375856, 342857069, -180891808, 667863287,
            "d75e925d195045d96da249245082f92491db6d798114d14a36dc798099239a4923",
            "d75e929d1ac90379249148e3c9e0b9249db71dc9c1489b7d26dd798009148db6e4",
            "d79e9aa11aa0c1a6db811240c98476db68a49279c136d37249267903891b8db6db",
            "d79f9aa11a524144db851240c9c0e96c91ab9379e02ad58db6de79a0752ab1b6d2",
            "d75e929d1a78c124937eddb6c9038b65acd8e47f213d24b65bb6798308e36db923"),
        new Golden(new Speech(7, 8, 2), -314163518, -2068645944, -1537166821, 696386120, -982107835,
            "d79e929d19504126925e492d5101892492c9245180449a4d24daa180449a4d24da",
            "d79e929d19f180449a4d24da51c057647946db518036d36d472451c049249236dc",
            "d6db8a5cda50801b6db0db6da0800dadb0db6df0800d6db0db2da100191c8e4924",
            "d71c929cdaf100191c924924f100191c8e4964a1c047238a492451e036db75b6dc",
            "d79e9a6119f18084d233a49150c136db5db6db5140b6db79c6db518056e38d5524"),
        new Golden(new Speech(8, 10, 8), -1971878596, -2064941600, 766208586, 2138989488, 1591548993,
            "d79d8a5d59502026db6d269a540066db72b6db780046db6e4924c8c038db79b71b",
            "d79e8a5d59c84036db6d369aa08066e37236dbf04036db6e4924c8c036db79b71b",
            "d75e91e119f080571c8dc723a04036db71b6dac8c046db6db6dbf0c046db7a4924",
            "d75e91e119a00056e36dc6e3a06036db6d3693c88056db6db6db50c046db7a4924",
            "d75d9a20d9508057249249247c00192492c91cf0c036e3764924c8c049248db6db"),
        new Golden(new Speech(9, 11, 2), -1310794193, -714147608, 2127300472, -1575784752, -2092319094,
            "d75ca9d8d0502036db71b6db524036db71b6db504036db723724504038db724724",
            "d81eb29d18504038db7247245000471b6e4924a000471b6e49249e00471b6e4924",
            "d75d925d197200491c8db6db500046dc8dc6db500046dc8dc6db9e0046dc8dc6db",
            "d75d925d199e0046dc8dc6db9e0046dc8dc6db9e0046dc8dc6db9e0046dc8dc6db",
            "d61a821d1a926039246db6db546039246db6db9e6039246db6db9e6039246db6db"),
        new Golden(new Speech(10, 12, 5), -1195396822, -906972416, -1060430378, -1293703400, -1629311403,
            "d69c8adce1506046db71b6db722036db71b6db960046db7236dbd440392491b6db",
            "d75e9b20e1760056dc6e4924784046db71b8dbc80046dc6e36e38c40491c91b6db",
            "d79e9aa920c80046dc92472460c046db75b6dbc80048db6e4724784048e48e36db",
            "d79f9aa520c8004924924724784036db75b6dbc22048e3724724784048e48e36db",
            "d7dfa2e521c80049249249247800392492371ba0004924924924500049248dc924"),
    };

    final Speech speech;
    final int encoderState;
    final int wholeSamples;
    final int wholeState;
    final int damagedSamples;
    final int damagedState;
    final String[] frames;

    private Golden(Speech speech, int encoderState, int wholeSamples, int wholeState, int damagedSamples,
            int damagedState, String... frames) {
        this.speech = speech;
        this.encoderState = encoderState;
        this.wholeSamples = wholeSamples;
        this.wholeState = wholeState;
        this.damagedSamples = damagedSamples;
        this.damagedState = damagedState;
        this.frames = frames;
    }
}

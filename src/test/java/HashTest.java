/** Promises 6 and 7: hash and longHash. */
public final class HashTest {
    private static final Checks CHECKS = new Checks();

    public static void main(String[] args) {
        knownHashes();
        knownLongHashes();
        everySize();
        everyMessageAndKey();
        keysWithoutBytes();
        keysThatAreTooLong();
        oneRegisterSeveralTimes();
        othersStay();
        wrongCalls();
        CHECKS.end("HashTest");
    }

    /** From BLAKE2b of Python's hashlib, which is what HASH is. */
    private static void knownHashes() {
        vector(64, 0, 0,
            "786a02f742015903c6c6fd852552d272912f4740e15847618a86e217f71f5419d25e1031afee5853"
            + "13896444934eb04b903a685b1448b755d56f701afe9be2ce");
        vector(1, 0, 0, "2e");
        vector(64, 0, 1,
            "4fe4da61bcc756071b226843361d74944c72245d23e8245ea678c13fdcd7fe2ae529cf999ad99cc2"
            + "4f7a73416a18ba53e76c0afef83b16a568b12fbfc1a2674d");
        vector(32, 0, 127, "86d82db148ecf78de275e0c172f3f87cf89e84b9f4c1884875eeefda1e4c3d54");
        vector(32, 0, 128, "4ee984158b9d8b637fc9bbdf60413bf48562daf7a360e92baeee9447bacaddb3");
        vector(32, 0, 129, "71608c0363bd0f5f861cb3783e65de86b9f725f1404a695a14268c5abc55e1b8");
        vector(64, 0, 200,
            "62e6435b061dc18cee05764078c043702e39cb128ca1aea1260a27eab15b6a34986d424122559815"
            + "f2f9063f80856ddd11b10d2e6346edf5de5a9a2e64cfdcbc");
        vector(20, 0, 64, "31172c610baaba10694e803d45bb1a45e48ebe92");
        vector(64, 1, 0,
            "d37ab8da8d5a7c46eeeaaf355c5292b32c90accdc71efee09aaba5e5a40f4aa537c02d1a82af1c68"
            + "5679d7a8ec227abb6414dafbef1e1b7823ca3dc70749ab3b");
        vector(64, 64, 0,
            "d5438131cae9c1de47a6fc7fae9d337d1d096b557450f5cb0f29ff43f74fc4396d5dc62960c23c6e"
            + "f587380e581e59a5387116ca21c839d808bfbace61f31a5c");
        vector(64, 64, 200,
            "b196b670ad1a17d5635a99ec3abf9cec71259bd096067ddc0f982dd3900983a24bf40e0268d88995"
            + "d46aec2489e93d6d4151a563157746583f6dff0dae124681");
        vector(1, 64, 1, "a6");
        vector(63, 63, 63,
            "700fbbcb386c31f614c99f102ead1a2fa5633c046d050efaecee4711c2600a1d2c28cf21079a7da3"
            + "72db43bf5fa28c00a54eed8808ded4d7eae34a4b82e099");
        vector(8, 32, 128, "7f3c98cd324888cb");
        vector(9, 5, 127, "6ee311c0ea64b6c52f");
        vector(33, 16, 129, "1193ab6358de69d0173a2a29c676ade95e294548630cee3bf16b677772af23df67");
    }

    /** From the same, made longer as the document says. */
    private static void knownLongHashes() {
        vectorLong(1, 0, "88");
        vectorLong(4, 3, "67b61114");
        vectorLong(63, 10,
            "093bc3109bb8227c13dcaabece236223bed8959f73b64cdaf913282f698860f1962f8d29ed92989d"
            + "804cfd4677913b22bf4168caa90863c3b7c605f94b9907");
        vectorLong(64, 200,
            "a480798902172c8345aeb3568fe782161bac52ebe5301674d432573608d2c04aafa061d16438d5f2"
            + "3b88bfb5b46235b20c2e499cc2b59159ebdde6b7a6ffaa4c");
        vectorLong(65, 0,
            "8e8b922d272035d878f074418dd8fadac41f5865ae0dc5066383237e85104c776bcad5ae3396429e"
            + "5048b46920bc0d7ad39ccbf77d99aeca1fe4702407b8603cb0");
        vectorLong(65, 200,
            "f29f45d626ae3f73f3303902214cdae8c74a6edabafccf5e258b93c8355f91266dd4b85abbd6d4b0"
            + "089df399632757d80a29ba98134d1bdf65db57fb6d13358c19");
        vectorLong(95, 5,
            "e1a7ad9f72570ef73195208fe86494354d4da3589a2a6430f0f9c099dc214b70d437728a493acfab"
            + "0bb86f7067e6fb4f106d9336778028c3f4d2f482983cd73aeabbf559f7f6e4e9ef2187d2c46164bb"
            + "6e255e31acedc5a932be55b157897b");
        vectorLong(96, 5,
            "288fd02d879c8c0b59e8daf17a63f426691de7876ebd5e4a4f1bd44f03df26e914028643ca93ab7f"
            + "9ade88508b9e644a5822cf1dbef128ce1fa27e8166e7e2fe9220d0a9b58e2a2e138a118d3105f07b"
            + "356a70a09bc7ed8bb7a29d1d1e687a1e");
        vectorLong(97, 5,
            "1b9ae7e3deec7b3f3dfc9db8dbf47bffc484158b8f5a228284b0aa0e4074806cdcc11c962b9cdeb8"
            + "a5c68cb392bd645695d75a9ba4cc6a10591e7f0feb51637e938accf0d01ff93079a4534f00c4d031"
            + "af9876ba15e413ea85ed8e887391e9e87c");
        vectorLong(128, 124,
            "4e27e1ff9fa8de977fc9bb45cf93c164157225d1dbfa71eaa1efbe50342f5c12cea02b6750653cc8"
            + "8fc9c706293e1c7fb06e0332da7c48c8003c27229b7e07fc9f1b7373079e2f6620df46bc546b9e13"
            + "f87a19616adb0b1d2b67260efd71513bd8ec510d37722004fdc1f656b37b4cb28e9bcceb569224c7"
            + "6f4d57ee15b91963");
        vectorLong(129, 125,
            "07c97d31745c4a867e649194ee6e3d31192439506eae6e8859d82bc835a022fb55b3c5fc883043ee"
            + "eefb382ebc68085ab45b9d60721abfd00118be4843306eaa561bd46de4d3c6cfb43374c73e63b9a4"
            + "80680e2209f3ac9c949f952c4f275180b935a8a0c37a1c08510cac597d715fbdf5b5f1d1e80c336c"
            + "fbbd16f7f393b98e71");
        vectorLong(160, 1,
            "01a13eea5f5f3bdd301343c7893e5becb1a52cb730dd82d6d595285a3db8431c5dd22d1d3da3c908"
            + "343d6be587409844936cec42da895ca4c3725a3ca7ef1cc43893478e136631f28147c6ab8cc7a3a9"
            + "fea05e52b7e77acb0d25ee079672ae44c279a0851a0839b00f276712a7b6ccce345c7b25e688aa24"
            + "7099d0538d5e2db284ca832236de55e65486b2ed7d9dd0341ef95eae33a77916d4759f1bbedb057d");
        vectorLong(161, 1,
            "c6c6bce79b928fd64f3607faa92b40c507f287888d45cf214a5b8501ad7c0d0e4dc7842f0617e856"
            + "2c2fa8e11517d448afe422effe65125197a1f71209e63c38fe12f8d61a7d909d29cec743dc547658"
            + "9a14bd48dc70ff00f46f77b35116ab34c0db09e97f078d3dad8ea62d7a062417d89bed7a1cdd97ef"
            + "e2f32516fa995a43b2ff53ee954f26f2f52cbddf86b749e4baad4c1347a3c629ca9fc11293574a37"
            + "c3");
        vectorLong(199, 7,
            "9c36394347df348dcaab0053d68d7c1dc77ee88d004bb66c2412b14ad58202d4ded2e761c171032d"
            + "fc25c85c83370f30da81db809809c86682e168a6e46e68b54f30bccca87d13fec9a189b276dede11"
            + "761ae079313205a0ef8ea11ea3754406a481ce4c9a856f958bf13efa7848b3fad97d8e06d337b8d4"
            + "eb9437368105cefbb14182c7b62bd7806eaee4ee4fbcd7e0cc20ea6586faf739ca55e63fb5aa0574"
            + "7c0447030a12dd0b2641a5259fc106a24b7279284089ee6a3b956e7bdb8b4b4cd810b4218f3438");
        vectorLong(200, 200,
            "c6f6e320ebcffb1576f5023b9c9dcb920c1c34fa3db9efb7be15505f6b1709abb3cc423d9b4a40ee"
            + "272a4adb2b6df4691df047d6f02fda3159f016de955f891a92deccef8c7633b19159b2f235b21997"
            + "52ae6fabf0c12b3a22f158590593188391387bc045b68c49c69458ecc8af128668e2eeb1cfacfbca"
            + "8312f099efd37a2a3959fd8814f8a2950465e69356ceb20bbf9781cffcde5a462c0a731f7fe8e911"
            + "ddefb247d5dba755c6c6ba4819c0fa6606d48284e6a4311b9f8773ffebf74bc5f91cd6014f1fd7ce");
    }

    private static void vector(int n, int keyBytes, int messageBytes, String want) {
        SlowSeal x = new SlowSeal();
        Checks.put(x, 0, Checks.rising(3, messageBytes));
        Checks.put(x, 7, Checks.rising(0x90, keyBytes));
        String call = "hash of " + messageBytes + " bytes, key " + keyBytes + ", to " + n;
        CHECKS.due(call, x.hash(4, 0, keyBytes == 0 ? SlowSeal.NONE : 7, n), n);
        CHECKS.dueHex(call, x, 4, want);
    }

    private static void vectorLong(int n, int messageBytes, String want) {
        SlowSeal x = new SlowSeal();
        Checks.put(x, 7, Checks.rising(3, messageBytes));
        String call = "longHash of " + messageBytes + " bytes to " + n;
        CHECKS.due(call, x.longHash(0, 7, n), n);
        CHECKS.dueHex(call, x, 0, want);
    }

    private static void everySize() {
        byte[] message = Checks.rising(11, 77);
        for (int n = 1; n <= 200; n++) {
            SlowSeal x = new SlowSeal();
            Checks.put(x, 1, message);
            if (n <= 64) {
                CHECKS.due("hash to " + n, x.hash(2, 1, SlowSeal.NONE, n), n);
                CHECKS.dueBytes("hash to " + n, x, 2, Model.hashOf(n, new byte[0], message));
            }
            CHECKS.due("longHash to " + n, x.longHash(2, 1, n), n);
            CHECKS.dueBytes("longHash to " + n, x, 2, Model.longOf(n, message));
        }
    }

    private static void everyMessageAndKey() {
        for (int size = 0; size <= 200; size++) {
            byte[] message = Checks.rising(size, size);
            byte[] key = Checks.rising(200 - size, size % 65);
            SlowSeal x = new SlowSeal();
            Checks.put(x, 0, message);
            Checks.put(x, 1, key);
            x.hash(2, 0, SlowSeal.NONE, 64);
            x.hash(3, 0, 1, 64);
            x.longHash(4, 0, 70);
            CHECKS.dueBytes("hash of " + size, x, 2, Model.hashOf(64, new byte[0], message));
            CHECKS.dueBytes("keyed hash of " + size, x, 3, Model.hashOf(64, key, message));
            CHECKS.dueBytes("longHash of " + size, x, 4, Model.longOf(70, message));
        }
    }

    private static void keysWithoutBytes() {
        SlowSeal x = new SlowSeal();
        x.add(0, 5, 12345678);
        CHECKS.due("hash with an empty key", x.hash(1, 0, 6, 40), 40);
        CHECKS.dueBytes("hash with an empty key", x, 1,
            Model.hashOf(40, new byte[0], Checks.bytesIn(x, 0)));
    }

    private static void keysThatAreTooLong() {
        SlowSeal x = new SlowSeal();
        x.add(1, 3, 99);
        Checks.put(x, 0, Checks.rising(0, 64));
        CHECKS.due("a key of 64 bytes", x.hash(2, 1, 0, 5), 5);
        x.add(0, 1, 64);
        CHECKS.due("a key of 65 bytes", x.hash(1, 1, 0, 5), SlowSeal.BAD);
        CHECKS.due("size after BAD", x.size(1), 3);
        Checks.put(x, 0, Checks.rising(0, 200));
        CHECKS.due("a key of 200 bytes", x.hash(1, 0, 0, 64), SlowSeal.BAD);
        CHECKS.dueHex("what BAD leaves", x, 1, "630000");
    }

    private static void oneRegisterSeveralTimes() {
        for (int to = 0; to < 2; to++) {
            for (int from = 0; from < 2; from++) {
                for (int key = -1; key < 2; key++) {
                    oneOfSeveral(to, from, key);
                }
            }
        }
    }

    private static void oneOfSeveral(int to, int from, int key) {
        byte[][] bytes = {Checks.rising(7, 64), Checks.rising(77, 33)};
        SlowSeal x = new SlowSeal();
        Checks.put(x, 0, bytes[0]);
        Checks.put(x, 1, bytes[1]);
        String call = "hash(" + to + ", " + from + ", " + key + ", 17)";
        byte[] want = Model.hashOf(17, key < 0 ? new byte[0] : bytes[key], bytes[from]);
        CHECKS.due(call, x.hash(to, from, key, 17), 17);
        CHECKS.dueBytes(call, x, to, want);
        CHECKS.dueBytes(call + ", the other", x, 1 - to, bytes[1 - to]);
        byte[] now = Checks.bytesIn(x, to);
        CHECKS.due("longHash onto itself", x.longHash(to, to, 200), 200);
        CHECKS.dueBytes("longHash onto itself", x, to, Model.longOf(200, now));
    }

    /** A shorter answer must not keep bytes of a longer one. */
    private static void othersStay() {
        SlowSeal x = new SlowSeal();
        for (int r = 0; r < 8; r++) {
            x.add(r, 8, r);
        }
        x.longHash(3, 2, 200);
        x.hash(3, 2, 1, 1);
        CHECKS.due("size of a shorter answer", x.size(3), 1);
        CHECKS.due("behind a shorter answer", x.at(3, 1), SlowSeal.NONE);
        for (int r = 0; r < 8; r++) {
            if (r != 3) {
                CHECKS.due("size(" + r + ") after hashes", x.size(r), 8);
                CHECKS.due("at(" + r + ", 0) after hashes", x.at(r, 0), r);
            }
        }
    }

    private static void wrongCalls() {
        SlowSeal x = new SlowSeal();
        x.add(0, 8, 1);
        int[] noRegisters = {-2, 8, 9, Integer.MIN_VALUE, Integer.MAX_VALUE};
        for (int r : noRegisters) {
            CHECKS.due("hash to " + r, x.hash(r, 0, 0, 8), SlowSeal.BAD);
            CHECKS.due("hash from " + r, x.hash(0, r, 0, 8), SlowSeal.BAD);
            CHECKS.due("hash by " + r, x.hash(0, 0, r, 8), SlowSeal.BAD);
            CHECKS.due("longHash to " + r, x.longHash(r, 0, 8), SlowSeal.BAD);
            CHECKS.due("longHash from " + r, x.longHash(0, r, 8), SlowSeal.BAD);
        }
        CHECKS.due("hash to NONE", x.hash(SlowSeal.NONE, 0, 0, 8), SlowSeal.BAD);
        CHECKS.due("hash from NONE", x.hash(0, SlowSeal.NONE, 0, 8), SlowSeal.BAD);
        CHECKS.due("longHash to NONE", x.longHash(SlowSeal.NONE, 0, 8), SlowSeal.BAD);
        CHECKS.due("longHash from NONE", x.longHash(0, SlowSeal.NONE, 8), SlowSeal.BAD);
        int[] noSizes = {0, -1, Integer.MIN_VALUE, Integer.MAX_VALUE};
        for (int n : noSizes) {
            CHECKS.due("hash of " + n, x.hash(0, 0, SlowSeal.NONE, n), SlowSeal.BAD);
            CHECKS.due("longHash of " + n, x.longHash(0, 0, n), SlowSeal.BAD);
        }
        CHECKS.due("hash of 65", x.hash(0, 0, SlowSeal.NONE, 65), SlowSeal.BAD);
        CHECKS.due("longHash of 201", x.longHash(0, 0, 201), SlowSeal.BAD);
        CHECKS.dueHex("what BAD leaves", x, 0, "0100000000000000");
    }
}

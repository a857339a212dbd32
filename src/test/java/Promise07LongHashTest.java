/** Promise 7: LONG of n bytes (1 .. 200): n. */
public final class Promise07LongHashTest {
    private static final Checks CHECKS = new Checks("Promise 7, longHash");

    public static void main(String[] args) {
        CHECKS.test("LONG as known elsewhere", Promise07LongHashTest::longHashesKnown);
        CHECKS.test("each n from 1 to 200", Promise07LongHashTest::longHashOfEachSize);
        CHECKS.test("each length of a message", Promise07LongHashTest::longHashOfEachMessage);
        CHECKS.test("64 bytes or less are one HASH", Promise07LongHashTest::longHashUpTo64);
        CHECKS.test("from 65 bytes on 32 of each V, as long as more than 64 are to come",
            Promise07LongHashTest::longHashBeyond64);
        CHECKS.test("a message without bytes still has the number n", Promise07LongHashTest::longHashOfNoBytes);
        CHECKS.test("a message that fills a part with its number", Promise07LongHashTest::longHashAtTheEdgeOfAPart);
        CHECKS.test("a full register, to a full register", Promise07LongHashTest::longHashOfAFullRegister);
        CHECKS.test("n below 1 is BAD", Promise07LongHashTest::longHashOfTooFewIsBad);
        CHECKS.test("n above 200 is BAD", Promise07LongHashTest::longHashOfTooManyIsBad);
        CHECKS.test("no such register to give to is BAD", Promise07LongHashTest::longHashToNoRegisterIsBad);
        CHECKS.test("no such register to take from is BAD", Promise07LongHashTest::longHashFromNoRegisterIsBad);
        CHECKS.test("BAD changes nothing", Promise07LongHashTest::longHashThatIsBadChangesNothing);
        CHECKS.test("one register twice: what it gives comes last", Promise07LongHashTest::longHashOntoItself);
        CHECKS.test("what it gives takes the place of what was there", Promise07LongHashTest::longHashReplaces);
        CHECKS.test("other registers stay", Promise07LongHashTest::longHashLeavesOthers);
        CHECKS.test("what is filled stays", Promise07LongHashTest::longHashLeavesTheFilling);
        CHECKS.end();
    }

    /** From BLAKE2b of Python's hashlib, made longer as the document says. */
    private static void longHashesKnown() {
        known(1, 0, "88");
        known(4, 3, "67b61114");
        known(63, 10,
            "093bc3109bb8227c13dcaabece236223bed8959f73b64cdaf913282f698860f1962f8d29ed92989d"
            + "804cfd4677913b22bf4168caa90863c3b7c605f94b9907");
        known(64, 200,
            "a480798902172c8345aeb3568fe782161bac52ebe5301674d432573608d2c04aafa061d16438d5f2"
            + "3b88bfb5b46235b20c2e499cc2b59159ebdde6b7a6ffaa4c");
        known(65, 0,
            "8e8b922d272035d878f074418dd8fadac41f5865ae0dc5066383237e85104c776bcad5ae3396429e"
            + "5048b46920bc0d7ad39ccbf77d99aeca1fe4702407b8603cb0");
        known(65, 200,
            "f29f45d626ae3f73f3303902214cdae8c74a6edabafccf5e258b93c8355f91266dd4b85abbd6d4b0"
            + "089df399632757d80a29ba98134d1bdf65db57fb6d13358c19");
        known(95, 5,
            "e1a7ad9f72570ef73195208fe86494354d4da3589a2a6430f0f9c099dc214b70d437728a493acfab"
            + "0bb86f7067e6fb4f106d9336778028c3f4d2f482983cd73aeabbf559f7f6e4e9ef2187d2c46164bb"
            + "6e255e31acedc5a932be55b157897b");
        known(96, 5,
            "288fd02d879c8c0b59e8daf17a63f426691de7876ebd5e4a4f1bd44f03df26e914028643ca93ab7f"
            + "9ade88508b9e644a5822cf1dbef128ce1fa27e8166e7e2fe9220d0a9b58e2a2e138a118d3105f07b"
            + "356a70a09bc7ed8bb7a29d1d1e687a1e");
        known(97, 5,
            "1b9ae7e3deec7b3f3dfc9db8dbf47bffc484158b8f5a228284b0aa0e4074806cdcc11c962b9cdeb8"
            + "a5c68cb392bd645695d75a9ba4cc6a10591e7f0feb51637e938accf0d01ff93079a4534f00c4d031"
            + "af9876ba15e413ea85ed8e887391e9e87c");
        known(128, 124,
            "4e27e1ff9fa8de977fc9bb45cf93c164157225d1dbfa71eaa1efbe50342f5c12cea02b6750653cc8"
            + "8fc9c706293e1c7fb06e0332da7c48c8003c27229b7e07fc9f1b7373079e2f6620df46bc546b9e13"
            + "f87a19616adb0b1d2b67260efd71513bd8ec510d37722004fdc1f656b37b4cb28e9bcceb569224c7"
            + "6f4d57ee15b91963");
        known(129, 125,
            "07c97d31745c4a867e649194ee6e3d31192439506eae6e8859d82bc835a022fb55b3c5fc883043ee"
            + "eefb382ebc68085ab45b9d60721abfd00118be4843306eaa561bd46de4d3c6cfb43374c73e63b9a4"
            + "80680e2209f3ac9c949f952c4f275180b935a8a0c37a1c08510cac597d715fbdf5b5f1d1e80c336c"
            + "fbbd16f7f393b98e71");
        known(160, 1,
            "01a13eea5f5f3bdd301343c7893e5becb1a52cb730dd82d6d595285a3db8431c5dd22d1d3da3c908"
            + "343d6be587409844936cec42da895ca4c3725a3ca7ef1cc43893478e136631f28147c6ab8cc7a3a9"
            + "fea05e52b7e77acb0d25ee079672ae44c279a0851a0839b00f276712a7b6ccce345c7b25e688aa24"
            + "7099d0538d5e2db284ca832236de55e65486b2ed7d9dd0341ef95eae33a77916d4759f1bbedb057d");
        known(161, 1,
            "c6c6bce79b928fd64f3607faa92b40c507f287888d45cf214a5b8501ad7c0d0e4dc7842f0617e856"
            + "2c2fa8e11517d448afe422effe65125197a1f71209e63c38fe12f8d61a7d909d29cec743dc547658"
            + "9a14bd48dc70ff00f46f77b35116ab34c0db09e97f078d3dad8ea62d7a062417d89bed7a1cdd97ef"
            + "e2f32516fa995a43b2ff53ee954f26f2f52cbddf86b749e4baad4c1347a3c629ca9fc11293574a37"
            + "c3");
        known(199, 7,
            "9c36394347df348dcaab0053d68d7c1dc77ee88d004bb66c2412b14ad58202d4ded2e761c171032d"
            + "fc25c85c83370f30da81db809809c86682e168a6e46e68b54f30bccca87d13fec9a189b276dede11"
            + "761ae079313205a0ef8ea11ea3754406a481ce4c9a856f958bf13efa7848b3fad97d8e06d337b8d4"
            + "eb9437368105cefbb14182c7b62bd7806eaee4ee4fbcd7e0cc20ea6586faf739ca55e63fb5aa0574"
            + "7c0447030a12dd0b2641a5259fc106a24b7279284089ee6a3b956e7bdb8b4b4cd810b4218f3438");
        known(200, 200,
            "c6f6e320ebcffb1576f5023b9c9dcb920c1c34fa3db9efb7be15505f6b1709abb3cc423d9b4a40ee"
            + "272a4adb2b6df4691df047d6f02fda3159f016de955f891a92deccef8c7633b19159b2f235b21997"
            + "52ae6fabf0c12b3a22f158590593188391387bc045b68c49c69458ecc8af128668e2eeb1cfacfbca"
            + "8312f099efd37a2a3959fd8814f8a2950465e69356ceb20bbf9781cffcde5a462c0a731f7fe8e911"
            + "ddefb247d5dba755c6c6ba4819c0fa6606d48284e6a4311b9f8773ffebf74bc5f91cd6014f1fd7ce");
    }

    private static void known(int n, int messageBytes, String want) {
        SlowSeal x = new SlowSeal();
        Samples.put(x, 7, Samples.rising(3, messageBytes));
        String call = "longHash of " + messageBytes + " bytes to " + n;
        CHECKS.due(call, x.longHash(0, 7, n), n);
        CHECKS.dueHex(call, x, 0, want);
    }

    private static void longHashOfEachSize() {
        for (int n = 1; n <= 200; n++) {
            same(n, Samples.rising(11, 77));
        }
    }

    private static void longHashOfEachMessage() {
        for (int size = 0; size <= 200; size++) {
            same(70, Samples.rising(size, size));
            same(7, Samples.rising(size, size));
        }
    }

    private static void same(int n, byte[] message) {
        SlowSeal x = new SlowSeal();
        Samples.put(x, 1, message);
        String call = "longHash of " + message.length + " bytes to " + n;
        CHECKS.due(call, x.longHash(2, 1, n), n);
        CHECKS.dueBytes(call, x, 2, Model.longOf(n, message));
    }

    /** By hash of the number and the message, and so not by the model. */
    private static void longHashUpTo64() {
        for (int n : new int[] {1, 32, 33, 63, 64}) {
            SlowSeal x = new SlowSeal();
            x.add(0, 5, 0x5544332211L);
            x.add(1, 4, n);
            x.add(1, 5, 0x5544332211L);
            x.longHash(2, 0, n);
            x.hash(3, 1, SlowSeal.NONE, n);
            CHECKS.dueBytes("longHash to " + n, x, 2, Samples.bytesIn(x, 3));
        }
    }

    private static void longHashBeyond64() {
        for (int n : new int[] {65, 96, 97, 128, 129, 160, 161, 192, 193, 200}) {
            SlowSeal x = new SlowSeal();
            x.add(0, 5, 0x5544332211L);
            x.longHash(2, 0, n);
            byte[] got = Samples.bytesIn(x, 2);
            SlowSeal steps = new SlowSeal();
            steps.add(1, 4, n);
            steps.add(1, 5, 0x5544332211L);
            steps.hash(1, 1, SlowSeal.NONE, 64);
            int given = 0;
            while (n - given > 64) {
                dueRow("longHash to " + n, got, given, Samples.bytesIn(steps, 1), 32);
                given += 32;
                steps.hash(1, 1, SlowSeal.NONE, n - given > 64 ? 64 : n - given);
            }
            dueRow("longHash to " + n, got, given, Samples.bytesIn(steps, 1), n - given);
        }
    }

    private static void dueRow(String call, byte[] got, int start, byte[] want, int n) {
        for (int i = 0; i < n; i++) {
            CHECKS.due(call + ", byte " + (start + i), got[start + i], want[i]);
        }
    }

    private static void longHashOfNoBytes() {
        SlowSeal x = new SlowSeal();
        CHECKS.due("longHash of no bytes", x.longHash(1, 0, 1), 1);
        CHECKS.dueHex("longHash of no bytes", x, 1, "88");
        for (int n : new int[] {1, 64, 65, 200}) {
            same(n, new byte[0]);
        }
    }

    private static void longHashAtTheEdgeOfAPart() {
        for (int size : new int[] {123, 124, 125}) {
            same(4, Samples.rising(size, size));
            same(128, Samples.rising(size, size));
        }
    }

    private static void longHashOfAFullRegister() {
        same(200, Samples.rising(1, 200));
        same(1, Samples.rising(1, 200));
    }

    private static void longHashOfTooFewIsBad() {
        SlowSeal x = Samples.ready();
        for (int n : new int[] {0, -1, -200, Integer.MIN_VALUE}) {
            CHECKS.due("longHash to " + n, x.longHash(2, 0, n), SlowSeal.BAD);
        }
        CHECKS.due("longHash to 1", x.longHash(2, 0, 1), 1);
    }

    private static void longHashOfTooManyIsBad() {
        SlowSeal x = Samples.ready();
        for (int n : new int[] {201, 202, 256, 1024, Integer.MAX_VALUE}) {
            CHECKS.due("longHash to " + n, x.longHash(2, 0, n), SlowSeal.BAD);
        }
        CHECKS.due("longHash to 200", x.longHash(2, 0, 200), 200);
    }

    private static void longHashToNoRegisterIsBad() {
        SlowSeal x = Samples.ready();
        for (int r : Samples.NO_REGISTERS) {
            CHECKS.due("longHash to register " + r, x.longHash(r, 0, 8), SlowSeal.BAD);
        }
        CHECKS.due("longHash to register 7", x.longHash(7, 0, 8), 8);
        CHECKS.due("longHash to register 0", x.longHash(0, 0, 8), 8);
    }

    private static void longHashFromNoRegisterIsBad() {
        SlowSeal x = Samples.ready();
        for (int r : Samples.NO_REGISTERS) {
            CHECKS.due("longHash from register " + r, x.longHash(0, r, 8), SlowSeal.BAD);
        }
        CHECKS.due("longHash from register 7", x.longHash(0, 7, 8), 8);
        CHECKS.due("longHash from register 0", x.longHash(0, 0, 8), 8);
    }

    private static void longHashThatIsBadChangesNothing() {
        SlowSeal x = Samples.ready();
        x.longHash(2, 0, 0);
        x.longHash(2, 0, 201);
        x.longHash(2, 8, 9);
        x.longHash(2, -1, 9);
        x.longHash(8, 0, 9);
        x.longHash(-1, 0, 9);
        for (int r = 0; r < 8; r++) {
            CHECKS.dueBytes("register " + r, x, r, Samples.readyModel().bytes(r));
        }
    }

    private static void longHashOntoItself() {
        for (int n : new int[] {1, 64, 65, 200}) {
            for (int size : new int[] {0, 1, 64, 200}) {
                SlowSeal x = new SlowSeal();
                Samples.put(x, 5, Samples.rising(8, size));
                CHECKS.due("longHash onto itself", x.longHash(5, 5, n), n);
                CHECKS.dueBytes("longHash onto itself", x, 5, Model.longOf(n, Samples.rising(8, size)));
            }
        }
    }

    private static void longHashReplaces() {
        SlowSeal x = Samples.ready();
        Samples.put(x, 3, Samples.rising(0, 200));
        CHECKS.due("longHash onto 200 bytes", x.longHash(3, 2, 1), 1);
        CHECKS.due("its size", x.size(3), 1);
        CHECKS.due("behind it", x.at(3, 1), SlowSeal.NONE);
        CHECKS.due("longHash onto one byte", x.longHash(3, 2, 200), 200);
        CHECKS.due("its size", x.size(3), 200);
    }

    private static void longHashLeavesOthers() {
        for (int to = 0; to < 8; to++) {
            SlowSeal x = Samples.ready();
            x.longHash(to, 2, 200);
            for (int r = 0; r < 8; r++) {
                if (r != to) {
                    CHECKS.dueBytes("register " + r, x, r, Samples.readyModel().bytes(r));
                }
            }
        }
    }

    private static void longHashLeavesTheFilling() {
        int[] sizes = {1, 2, 2, 20, 50};
        SlowSeal x = Samples.filled(sizes, 5);
        Model model = Samples.filledModel(sizes, 16);
        x.longHash(0, 1, 200);
        CHECKS.due("told(4)", x.told(4), 5);
        CHECKS.due("fill(100)", x.fill(100), 11);
        x.longHash(3, 1, 64);
        x.tag(7);
        model.tag(7);
        CHECKS.dueBytes("the tag", x, 7, model.bytes(7));
    }
}

/** Promise 6: HASH of n bytes, with a key (NONE: none): n. BAD: also a key of more than 64 bytes. */
public final class Promise06HashTest {
    private static final Checks CHECKS = new Checks("Promise 6, hash");
    private static final byte[] NO_BYTES = {};

    public static void main(String[] args) {
        CHECKS.test("HASH as known elsewhere", Promise06HashTest::hashesKnown);
        CHECKS.test("each n from 1 to 64", Promise06HashTest::hashOfEachSize);
        CHECKS.test("each length of a message, with and without a key", Promise06HashTest::hashOfEachMessage);
        CHECKS.test("each length of a key from 1 to 64", Promise06HashTest::hashWithEachKey);
        CHECKS.test("a message without bytes at all is one part of 0s", Promise06HashTest::hashOfNoBytes);
        CHECKS.test("a message of just one part, and of one byte less and more", Promise06HashTest::hashAtTheEdgeOfAPart);
        CHECKS.test("0s behind the last part are not counted", Promise06HashTest::hashOfZeros);
        CHECKS.test("a key before a message without bytes is the last part", Promise06HashTest::hashOfAKeyAlone);
        CHECKS.test("a key's length goes in, not its 0s alone", Promise06HashTest::hashWithKeysOfZeros);
        CHECKS.test("a key without bytes is like NONE", Promise06HashTest::hashWithAnEmptyKey);
        CHECKS.test("a key of 64 bytes is fine, of more is BAD", Promise06HashTest::hashWithTooLongAKeyIsBad);
        CHECKS.test("a full register as message is fine", Promise06HashTest::hashOfAFullRegister);
        CHECKS.test("n below 1 is BAD", Promise06HashTest::hashOfTooFewIsBad);
        CHECKS.test("n above 64 is BAD", Promise06HashTest::hashOfTooManyIsBad);
        CHECKS.test("no such register to give to is BAD", Promise06HashTest::hashToNoRegisterIsBad);
        CHECKS.test("no such register to take from is BAD", Promise06HashTest::hashFromNoRegisterIsBad);
        CHECKS.test("no such key is BAD, but for NONE", Promise06HashTest::hashWithNoSuchKeyIsBad);
        CHECKS.test("BAD changes nothing", Promise06HashTest::hashThatIsBadChangesNothing);
        CHECKS.test("one register several times: what it gives comes last", Promise06HashTest::hashOntoItsInputs);
        CHECKS.test("what it gives takes the place of what was there", Promise06HashTest::hashReplaces);
        CHECKS.test("other registers stay", Promise06HashTest::hashLeavesOthers);
        CHECKS.test("what is filled stays", Promise06HashTest::hashLeavesTheFilling);
        CHECKS.end();
    }

    /** From BLAKE2b of Python's hashlib, which is what HASH is. */
    private static void hashesKnown() {
        known(64, 0, 0,
            "786a02f742015903c6c6fd852552d272912f4740e15847618a86e217f71f5419d25e1031afee5853"
            + "13896444934eb04b903a685b1448b755d56f701afe9be2ce");
        known(1, 0, 0, "2e");
        known(64, 0, 1,
            "4fe4da61bcc756071b226843361d74944c72245d23e8245ea678c13fdcd7fe2ae529cf999ad99cc2"
            + "4f7a73416a18ba53e76c0afef83b16a568b12fbfc1a2674d");
        known(32, 0, 127, "86d82db148ecf78de275e0c172f3f87cf89e84b9f4c1884875eeefda1e4c3d54");
        known(32, 0, 128, "4ee984158b9d8b637fc9bbdf60413bf48562daf7a360e92baeee9447bacaddb3");
        known(32, 0, 129, "71608c0363bd0f5f861cb3783e65de86b9f725f1404a695a14268c5abc55e1b8");
        known(64, 0, 200,
            "62e6435b061dc18cee05764078c043702e39cb128ca1aea1260a27eab15b6a34986d424122559815"
            + "f2f9063f80856ddd11b10d2e6346edf5de5a9a2e64cfdcbc");
        known(20, 0, 64, "31172c610baaba10694e803d45bb1a45e48ebe92");
        known(64, 1, 0,
            "d37ab8da8d5a7c46eeeaaf355c5292b32c90accdc71efee09aaba5e5a40f4aa537c02d1a82af1c68"
            + "5679d7a8ec227abb6414dafbef1e1b7823ca3dc70749ab3b");
        known(64, 64, 0,
            "d5438131cae9c1de47a6fc7fae9d337d1d096b557450f5cb0f29ff43f74fc4396d5dc62960c23c6e"
            + "f587380e581e59a5387116ca21c839d808bfbace61f31a5c");
        known(64, 64, 200,
            "b196b670ad1a17d5635a99ec3abf9cec71259bd096067ddc0f982dd3900983a24bf40e0268d88995"
            + "d46aec2489e93d6d4151a563157746583f6dff0dae124681");
        known(1, 64, 1, "a6");
        known(63, 63, 63,
            "700fbbcb386c31f614c99f102ead1a2fa5633c046d050efaecee4711c2600a1d2c28cf21079a7da3"
            + "72db43bf5fa28c00a54eed8808ded4d7eae34a4b82e099");
        known(8, 32, 128, "7f3c98cd324888cb");
        known(9, 5, 127, "6ee311c0ea64b6c52f");
        known(33, 16, 129, "1193ab6358de69d0173a2a29c676ade95e294548630cee3bf16b677772af23df67");
    }

    private static void known(int n, int keyBytes, int messageBytes, String want) {
        SlowSeal x = new SlowSeal();
        Samples.put(x, 0, Samples.rising(3, messageBytes));
        Samples.put(x, 7, Samples.rising(0x90, keyBytes));
        String call = "hash of " + messageBytes + " bytes, key " + keyBytes + ", to " + n;
        CHECKS.due(call, x.hash(4, 0, keyBytes == 0 ? SlowSeal.NONE : 7, n), n);
        CHECKS.dueHex(call, x, 4, want);
    }

    private static void hashOfEachSize() {
        byte[] message = Samples.rising(11, 77);
        for (int n = 1; n <= 64; n++) {
            SlowSeal x = new SlowSeal();
            Samples.put(x, 1, message);
            CHECKS.due("hash to " + n, x.hash(2, 1, SlowSeal.NONE, n), n);
            CHECKS.dueBytes("hash to " + n, x, 2, Model.hashOf(n, NO_BYTES, message));
        }
    }

    private static void hashOfEachMessage() {
        byte[] key = Samples.rising(200, 5);
        for (int size = 0; size <= 200; size++) {
            byte[] message = Samples.rising(size, size);
            SlowSeal x = new SlowSeal();
            Samples.put(x, 0, message);
            Samples.put(x, 1, key);
            CHECKS.due("hash of " + size, x.hash(2, 0, SlowSeal.NONE, 64), 64);
            CHECKS.dueBytes("hash of " + size, x, 2, Model.hashOf(64, NO_BYTES, message));
            CHECKS.due("hash with a key of " + size, x.hash(2, 0, 1, 64), 64);
            CHECKS.dueBytes("hash with a key of " + size, x, 2, Model.hashOf(64, key, message));
        }
    }

    private static void hashWithEachKey() {
        byte[] message = Samples.rising(0, 128);
        for (int size = 1; size <= 64; size++) {
            byte[] key = Samples.rising(size, size);
            SlowSeal x = new SlowSeal();
            Samples.put(x, 0, message);
            Samples.put(x, 1, key);
            CHECKS.due("hash with a key of " + size, x.hash(2, 0, 1, 64), 64);
            CHECKS.dueBytes("hash with a key of " + size, x, 2, Model.hashOf(64, key, message));
        }
    }

    private static void hashOfNoBytes() {
        SlowSeal x = new SlowSeal();
        CHECKS.due("hash of no bytes", x.hash(1, 0, SlowSeal.NONE, 64), 64);
        CHECKS.dueHex("hash of no bytes", x, 1,
            "786a02f742015903c6c6fd852552d272912f4740e15847618a86e217f71f5419d25e1031afee5853"
            + "13896444934eb04b903a685b1448b755d56f701afe9be2ce");
        Samples.put(x, 0, Samples.rising(1, 200));
        x.hash(2, 0, SlowSeal.NONE, 64);
        x.clear(0);
        x.hash(2, 0, SlowSeal.NONE, 1);
        CHECKS.dueHex("the same after a longer message, to one byte", x, 2, "2e");
    }

    /** This and those below are from Python's hashlib. */
    private static void hashAtTheEdgeOfAPart() {
        zeros(0, 127, "8a63b21987a64abd3af831a193427fec");
        zeros(0, 128, "40d697295c01d2312035c1fa7d884b8d");
        zeros(0, 129, "dcd04926f5dafbeb0bb326f1915d1066");
    }

    private static void hashOfZeros() {
        zeros(0, 0, "cae66941d9efbd404e4d88758ea67670");
        zeros(0, 1, "7025e075d5e2f6cde3cc051a31f07660");
        zeros(0, 2, "71d0aacb690b61280d0c97c6b6a66664");
        zeros(0, 200, "1e0fe7875b81b2e6bfe9ed5e264731b4");
    }

    private static void hashOfAKeyAlone() {
        zeros(1, 0, "667428338d33e26cdee2fcbafffde7fe");
        zeros(64, 0, "ae4bb9d756f059fb96e6d4db161ca443");
    }

    private static void hashWithKeysOfZeros() {
        zeros(1, 128, "d3cd405aee5c21eb18c6ff785efc8221");
        zeros(2, 128, "3e6a156699e6a6fa4af7b25f99504bd3");
        zeros(63, 128, "39f702f9707eb1e7c71e4ddd66acb14f");
        zeros(64, 128, "121f26a1f76048c77b59dff0437a4e12");
    }

    private static void zeros(int keyBytes, int messageBytes, String want) {
        SlowSeal x = new SlowSeal();
        Samples.put(x, 0, new byte[messageBytes]);
        Samples.put(x, 1, new byte[keyBytes]);
        String call = "hash of " + messageBytes + " 0s with a key of " + keyBytes;
        CHECKS.due(call, x.hash(2, 0, 1, 16), 16);
        CHECKS.dueHex(call, x, 2, want);
    }

    private static void hashWithAnEmptyKey() {
        SlowSeal x = new SlowSeal();
        x.add(0, 5, 12345678);
        byte[] want = Model.hashOf(40, NO_BYTES, Samples.bytesIn(x, 0));
        CHECKS.due("hash with an empty key", x.hash(1, 0, 6, 40), 40);
        CHECKS.dueBytes("hash with an empty key", x, 1, want);
        CHECKS.due("hash with NONE", x.hash(1, 0, SlowSeal.NONE, 40), 40);
        CHECKS.dueBytes("hash with NONE", x, 1, want);
    }

    private static void hashWithTooLongAKeyIsBad() {
        SlowSeal x = new SlowSeal();
        Samples.put(x, 0, Samples.rising(0, 64));
        CHECKS.due("a key of 64 bytes", x.hash(2, 1, 0, 5), 5);
        for (int size = 65; size <= 200; size++) {
            x.add(0, 1, size);
            CHECKS.due("a key of " + size + " bytes", x.hash(2, 1, 0, 5), SlowSeal.BAD);
        }
        CHECKS.due("the same as message", x.hash(2, 0, 1, 5), 5);
    }

    private static void hashOfAFullRegister() {
        SlowSeal x = new SlowSeal();
        Samples.put(x, 0, Samples.rising(9, 200));
        Samples.put(x, 1, Samples.rising(99, 64));
        CHECKS.due("hash of 200", x.hash(2, 0, 1, 64), 64);
        CHECKS.dueBytes("hash of 200", x, 2, Model.hashOf(64, Samples.rising(99, 64), Samples.rising(9, 200)));
    }

    private static void hashOfTooFewIsBad() {
        SlowSeal x = Samples.ready();
        for (int n : new int[] {0, -1, -64, Integer.MIN_VALUE}) {
            CHECKS.due("hash to " + n, x.hash(2, 0, 1, n), SlowSeal.BAD);
            CHECKS.due("hash to " + n + " without a key", x.hash(2, 0, SlowSeal.NONE, n), SlowSeal.BAD);
        }
        CHECKS.due("hash to 1", x.hash(2, 0, 1, 1), 1);
    }

    private static void hashOfTooManyIsBad() {
        SlowSeal x = Samples.ready();
        for (int n : new int[] {65, 66, 128, 200, 256, 257, Integer.MAX_VALUE}) {
            CHECKS.due("hash to " + n, x.hash(2, 0, 1, n), SlowSeal.BAD);
            CHECKS.due("hash to " + n + " without a key", x.hash(2, 0, SlowSeal.NONE, n), SlowSeal.BAD);
        }
        CHECKS.due("hash to 64", x.hash(2, 0, 1, 64), 64);
    }

    private static void hashToNoRegisterIsBad() {
        SlowSeal x = Samples.ready();
        for (int r : Samples.NO_REGISTERS) {
            CHECKS.due("hash to register " + r, x.hash(r, 0, 1, 8), SlowSeal.BAD);
        }
        CHECKS.due("hash to register 7", x.hash(7, 0, 1, 8), 8);
        CHECKS.due("hash to register 0", x.hash(0, 0, 1, 8), 8);
    }

    private static void hashFromNoRegisterIsBad() {
        SlowSeal x = Samples.ready();
        for (int r : Samples.NO_REGISTERS) {
            CHECKS.due("hash from register " + r, x.hash(2, r, 1, 8), SlowSeal.BAD);
        }
        CHECKS.due("hash from register 7", x.hash(2, 7, 1, 8), 8);
        CHECKS.due("hash from register 0", x.hash(2, 0, 1, 8), 8);
    }

    private static void hashWithNoSuchKeyIsBad() {
        SlowSeal x = Samples.ready();
        for (int r : Samples.NO_REGISTERS) {
            CHECKS.due("hash with key " + r, x.hash(2, 0, r, 8), r == SlowSeal.NONE ? 8 : SlowSeal.BAD);
        }
        CHECKS.due("hash with key 7", x.hash(2, 0, 7, 8), 8);
        CHECKS.due("hash with key 0", x.hash(2, 0, 0, 8), 8);
    }

    private static void hashThatIsBadChangesNothing() {
        SlowSeal x = Samples.ready();
        Samples.put(x, 6, Samples.rising(0, 65));
        x.hash(2, 0, 6, 8);
        x.hash(2, 0, 1, 0);
        x.hash(2, 0, 1, 65);
        x.hash(2, 8, 1, 8);
        x.hash(2, -1, 1, 8);
        x.hash(2, 0, 8, 8);
        x.hash(2, 0, -2, 8);
        x.hash(8, 0, 1, 8);
        for (int r = 0; r < 6; r++) {
            CHECKS.dueBytes("register " + r, x, r, Samples.readyModel().bytes(r));
        }
        CHECKS.dueBytes("register 6", x, 6, Samples.rising(0, 65));
    }

    private static void hashOntoItsInputs() {
        for (int to = 0; to < 2; to++) {
            for (int from = 0; from < 2; from++) {
                for (int key = -1; key < 2; key++) {
                    ontoInputs(to, from, key);
                }
            }
        }
    }

    private static void ontoInputs(int to, int from, int key) {
        byte[][] bytes = {Samples.rising(7, 64), Samples.rising(77, 33)};
        SlowSeal x = new SlowSeal();
        Samples.put(x, 0, bytes[0]);
        Samples.put(x, 1, bytes[1]);
        String call = "hash(" + to + ", " + from + ", " + key + ", 17)";
        byte[] want = Model.hashOf(17, key < 0 ? NO_BYTES : bytes[key], bytes[from]);
        CHECKS.due(call, x.hash(to, from, key, 17), 17);
        CHECKS.dueBytes(call, x, to, want);
        CHECKS.dueBytes(call + ", the other", x, 1 - to, bytes[1 - to]);
    }

    private static void hashReplaces() {
        SlowSeal x = Samples.ready();
        Samples.put(x, 3, Samples.rising(0, 200));
        CHECKS.due("hash onto 200 bytes", x.hash(3, 2, 1, 1), 1);
        CHECKS.due("its size", x.size(3), 1);
        CHECKS.due("behind it", x.at(3, 1), SlowSeal.NONE);
        CHECKS.due("hash onto one byte", x.hash(3, 2, 1, 64), 64);
        CHECKS.due("its size", x.size(3), 64);
    }

    private static void hashLeavesOthers() {
        for (int to = 0; to < 8; to++) {
            SlowSeal x = Samples.ready();
            x.hash(to, 2, 1, 33);
            for (int r = 0; r < 8; r++) {
                if (r != to) {
                    CHECKS.dueBytes("register " + r, x, r, Samples.readyModel().bytes(r));
                }
            }
        }
    }

    private static void hashLeavesTheFilling() {
        int[] sizes = {0, 2, 2, 20, 50};
        SlowSeal x = Samples.filled(sizes, 5);
        Model model = Samples.filledModel(sizes, 16);
        x.hash(0, 1, 2, 64);
        CHECKS.due("told(4)", x.told(4), 5);
        CHECKS.due("fill(100)", x.fill(100), 11);
        x.hash(3, 1, 2, 64);
        x.tag(7);
        model.tag(7);
        CHECKS.dueBytes("the tag", x, 7, model.bytes(7));
    }
}

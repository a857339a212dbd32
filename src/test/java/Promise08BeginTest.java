import java.util.Arrays;

/**
 * Promise 8: FILLING begins: the first two blocks of each lane stand, others are 0s: how many
 * blocks. BAD: also a salt of fewer than 8 bytes (what was filled stays).
 */
public final class Promise08BeginTest {
    private static final Checks CHECKS = new Checks("Promise 8, begin");
    private static final int KIND = 0;
    private static final int LANES = 1;
    private static final int PASSES = 2;
    private static final int MEMORY = 3;
    private static final int TAG = 4;
    private static final int PASSWORD = 5;
    private static final int SALT = 6;
    private static final int SECRET = 7;
    private static final int DATA = 8;
    /** A begin that is fine, to be changed in one number. */
    private static final int[] FINE = {0, 1, 1, 128, 32, 0, 1, 2, 3};

    public static void main(String[] args) {
        CHECKS.test("it answers how many blocks, cut off to 4 for each lane", Promise08BeginTest::beginAnswersBlocks);
        CHECKS.test("the first two blocks of each lane stand", Promise08BeginTest::beginLaysTwoBlocksALane);
        CHECKS.test("others are 0s", Promise08BeginTest::beginLeavesOthersZero);
        CHECKS.test("the memory asked for goes in, not what it is cut off to", Promise08BeginTest::beginTakesTheMemoryAskedFor);
        CHECKS.test("KIND below 0 or above 2 is BAD", Promise08BeginTest::beginOfNoKindIsBad);
        CHECKS.test("LANES below 1 or above 4 is BAD", Promise08BeginTest::beginOfNoLanesIsBad);
        CHECKS.test("PASSES below 1 or above 5 is BAD", Promise08BeginTest::beginOfNoPassesIsBad);
        CHECKS.test("MEMORY below 8 for each lane is BAD", Promise08BeginTest::beginOfTooSmallAMemoryIsBad);
        CHECKS.test("MEMORY above 128 is BAD", Promise08BeginTest::beginOfTooLargeAMemoryIsBad);
        CHECKS.test("TAG below 4 or above 128 is BAD", Promise08BeginTest::beginOfNoTagIsBad);
        CHECKS.test("no such password is BAD, NONE too", Promise08BeginTest::beginWithNoPasswordIsBad);
        CHECKS.test("no such salt is BAD, NONE too", Promise08BeginTest::beginWithNoSaltIsBad);
        CHECKS.test("no such secret is BAD, but for NONE", Promise08BeginTest::beginWithNoSuchSecretIsBad);
        CHECKS.test("no such data is BAD, but for NONE", Promise08BeginTest::beginWithNoSuchDataIsBad);
        CHECKS.test("a salt of fewer than 8 bytes is BAD", Promise08BeginTest::beginWithTooShortASaltIsBad);
        CHECKS.test("a password without bytes is fine", Promise08BeginTest::beginWithAnEmptyPassword);
        CHECKS.test("secret and data: NONE without bytes", Promise08BeginTest::beginWithNoneAsSecretAndData);
        CHECKS.test("full registers as password, salt, secret and data", Promise08BeginTest::beginWithFullRegisters);
        CHECKS.test("each length of each input goes in", Promise08BeginTest::beginWithEachLength);
        CHECKS.test("one register may be named several times", Promise08BeginTest::beginWithOneRegister);
        CHECKS.test("BAD: what was filled stays", Promise08BeginTest::beginThatIsBadLeavesTheFilling);
        CHECKS.test("BAD of a new object: nothing is begun", Promise08BeginTest::beginThatIsBadBeginsNothing);
        CHECKS.test("what was filled is gone", Promise08BeginTest::beginAgainForgets);
        CHECKS.test("in the midst of a filling it begins anew", Promise08BeginTest::beginInTheMidst);
        CHECKS.test("registers stay", Promise08BeginTest::beginLeavesRegisters);
        CHECKS.test("what registers become later does not matter", Promise08BeginTest::beginTakesItsInputsAtOnce);
        CHECKS.end();
    }

    private static int begin(SlowSeal x, int[] b) {
        return x.begin(b[KIND], b[LANES], b[PASSES], b[MEMORY], b[TAG], b[PASSWORD], b[SALT], b[SECRET], b[DATA]);
    }

    private static void dueBegin(int[] b, int want) {
        CHECKS.due("begin of " + Arrays.toString(b), begin(Samples.ready(), b), want);
    }

    /** That one number is fine from its least to its most and BAD outside of them. */
    private static void dueWithin(int place, int least, int most) {
        dueBegin(Samples.changed(FINE, place, least), 128);
        dueBegin(Samples.changed(FINE, place, most), 128);
        for (int wrong : new int[] {least - 1, most + 1, least - 100, most + 100, Integer.MIN_VALUE, Integer.MAX_VALUE}) {
            dueBegin(Samples.changed(FINE, place, wrong), SlowSeal.BAD);
        }
    }

    private static void beginAnswersBlocks() {
        for (int lanes = 1; lanes <= 4; lanes++) {
            SlowSeal x = Samples.ready();
            for (int memory = 8 * lanes; memory <= 128; memory++) {
                int blocks = memory / (4 * lanes) * 4 * lanes;
                String call = "begin of " + lanes + " lanes, memory " + memory;
                CHECKS.due(call, x.begin(0, lanes, 1, memory, 4, 0, 1, -1, -1), blocks);
                CHECKS.due(call + ", told(3)", x.told(3), blocks);
            }
        }
    }

    private static void beginLaysTwoBlocksALane() {
        int[][] sizes = {{0, 1, 1, 8, 4}, {1, 2, 3, 37, 65}, {2, 4, 5, 128, 128}, {0, 3, 2, 100, 64}, {2, 4, 1, 32, 4}};
        for (int[] s : sizes) {
            Model model = Samples.filledModel(s, 0);
            int laneBlocks = s[3] / (4 * s[1]) * 4;
            for (int lane = 0; lane < s[1]; lane++) {
                SlowSeal x = Samples.filled(s, 0);
                for (int k = 0; k < 256; k++) {
                    int block = lane * laneBlocks + k / 128;
                    CHECKS.due("word(" + block + ", " + k % 128 + ") of " + Arrays.toString(s),
                        x.word(block, k % 128), model.word(block, k % 128));
                }
            }
        }
    }

    private static void beginLeavesOthersZero() {
        int[][] sizes = {{0, 1, 1, 8, 4}, {1, 2, 3, 37, 65}, {2, 4, 5, 128, 128}, {0, 3, 2, 100, 64}};
        for (int[] s : sizes) {
            int laneBlocks = s[3] / (4 * s[1]) * 4;
            long[][] memory = Samples.memoryOf(s, 0);
            for (int block = 0; block < memory.length; block++) {
                boolean isZero = Arrays.equals(memory[block], new long[128]);
                CHECKS.dueTrue("block " + block + " of " + Arrays.toString(s), isZero == (block % laneBlocks > 1));
            }
        }
    }

    private static void beginTakesTheMemoryAskedFor() {
        SlowSeal x = Samples.ready();
        for (int memory = 8; memory < 12; memory++) {
            Model model = Samples.readyModel();
            CHECKS.due("blocks", x.begin(0, 1, 1, memory, 4, 0, 1, 2, 3), 8);
            model.begin(new int[] {0, 1, 1, memory, 4}, 0, 1, 2, 3);
            CHECKS.due("word(0, 0) of memory " + memory, x.word(0, 0), model.word(0, 0));
            CHECKS.due("word(1, 127) of memory " + memory, x.word(1, 127), model.word(1, 127));
        }
    }

    private static void beginOfNoKindIsBad() {
        dueWithin(KIND, 0, 2);
    }

    private static void beginOfNoLanesIsBad() {
        dueWithin(LANES, 1, 4);
        // Numbers of which 8 times as many run over to a small memory.
        dueBegin(Samples.changed(FINE, LANES, 1 << 29), SlowSeal.BAD);
        dueBegin(Samples.changed(FINE, LANES, (1 << 29) + 1), SlowSeal.BAD);
        dueBegin(Samples.changed(FINE, LANES, -(1 << 29) + 1), SlowSeal.BAD);
    }

    private static void beginOfNoPassesIsBad() {
        dueWithin(PASSES, 1, 5);
    }

    private static void beginOfTooSmallAMemoryIsBad() {
        for (int lanes = 1; lanes <= 4; lanes++) {
            int[] b = Samples.changed(FINE, LANES, lanes);
            dueBegin(Samples.changed(b, MEMORY, 8 * lanes), 8 * lanes);
            for (int memory : new int[] {8 * lanes - 1, 4 * lanes, 1, 0, -1, -8 * lanes, Integer.MIN_VALUE}) {
                dueBegin(Samples.changed(b, MEMORY, memory), SlowSeal.BAD);
            }
        }
    }

    private static void beginOfTooLargeAMemoryIsBad() {
        for (int lanes = 1; lanes <= 4; lanes++) {
            int[] b = Samples.changed(FINE, LANES, lanes);
            dueBegin(Samples.changed(b, MEMORY, 128), 128 / (4 * lanes) * 4 * lanes);
            for (int memory : new int[] {129, 130, 131, 132, 256, Integer.MAX_VALUE}) {
                dueBegin(Samples.changed(b, MEMORY, memory), SlowSeal.BAD);
            }
        }
    }

    private static void beginOfNoTagIsBad() {
        dueWithin(TAG, 4, 128);
    }

    private static void beginWithNoPasswordIsBad() {
        for (int r : Samples.NO_REGISTERS) {
            dueBegin(Samples.changed(FINE, PASSWORD, r), SlowSeal.BAD);
        }
        dueBegin(Samples.changed(FINE, PASSWORD, 7), 128);
    }

    private static void beginWithNoSaltIsBad() {
        for (int r : Samples.NO_REGISTERS) {
            dueBegin(Samples.changed(FINE, SALT, r), SlowSeal.BAD);
        }
        dueBegin(Samples.changed(FINE, SALT, 0), 128);
        dueBegin(Samples.changed(FINE, SALT, 7), 128);
    }

    private static void beginWithNoSuchSecretIsBad() {
        for (int r : Samples.NO_REGISTERS) {
            dueBegin(Samples.changed(FINE, SECRET, r), r == SlowSeal.NONE ? 128 : SlowSeal.BAD);
        }
        dueBegin(Samples.changed(FINE, SECRET, 0), 128);
        dueBegin(Samples.changed(FINE, SECRET, 7), 128);
    }

    private static void beginWithNoSuchDataIsBad() {
        for (int r : Samples.NO_REGISTERS) {
            dueBegin(Samples.changed(FINE, DATA, r), r == SlowSeal.NONE ? 128 : SlowSeal.BAD);
        }
        dueBegin(Samples.changed(FINE, DATA, 0), 128);
        dueBegin(Samples.changed(FINE, DATA, 7), 128);
    }

    private static void beginWithTooShortASaltIsBad() {
        SlowSeal x = new SlowSeal();
        for (int size = 0; size < 8; size++) {
            CHECKS.due("a salt of " + size, x.begin(0, 1, 1, 8, 4, 0, 1, -1, -1), SlowSeal.BAD);
            CHECKS.due("a salt of " + size + ", named four times", x.begin(0, 1, 1, 8, 4, 1, 1, 1, 1), SlowSeal.BAD);
            x.add(1, 1, size);
        }
        CHECKS.due("a salt of 8", x.begin(0, 1, 1, 8, 4, 0, 1, -1, -1), 8);
        x.add(1, 1, 8);
        CHECKS.due("a salt of 9", x.begin(0, 1, 1, 8, 4, 0, 1, -1, -1), 8);
    }

    private static void beginWithAnEmptyPassword() {
        sameFirstWords(new int[] {0, 8, 0, 0});
        sameFirstWords(new int[] {0, 8, 8, 8});
    }

    private static void beginWithNoneAsSecretAndData() {
        int[] without = {SlowSeal.NONE, 6, 7};
        SlowSeal x = Samples.ready();
        x.clear(6);
        x.clear(7);
        Model model = Samples.readyModel();
        model.begin(new int[] {1, 1, 1, 8, 4}, 0, 1, SlowSeal.NONE, SlowSeal.NONE);
        for (int secret : without) {
            for (int data : without) {
                CHECKS.due("begin", x.begin(1, 1, 1, 8, 4, 0, 1, secret, data), 8);
                CHECKS.due("word with secret " + secret + ", data " + data, x.word(0, 0), model.word(0, 0));
            }
        }
        sameFirstWords(new int[] {8, 8, 0, 8});
        sameFirstWords(new int[] {8, 8, 8, 0});
    }

    private static void beginWithFullRegisters() {
        for (int full = 0; full < 4; full++) {
            sameFirstWords(Samples.changed(new int[] {8, 8, 8, 8}, full, 200));
        }
        sameFirstWords(new int[] {200, 200, 200, 200});
    }

    private static void beginWithEachLength() {
        for (int size = 0; size <= 200; size++) {
            sameFirstWords(new int[] {size, Math.max(8, 200 - size), size / 2, size % 7});
        }
    }

    /** Of a filling whose inputs have these lengths. */
    private static void sameFirstWords(int[] sizes) {
        SlowSeal x = new SlowSeal();
        Model model = new Model();
        for (int r = 0; r < 4; r++) {
            Samples.put(x, r, Samples.rising(31 * r, sizes[r]));
            for (byte b : Samples.rising(31 * r, sizes[r])) {
                model.add(r, 1, b);
            }
        }
        String call = "begin with inputs of " + Arrays.toString(sizes);
        CHECKS.due(call, x.begin(2, 1, 1, 8, 4, 0, 1, 2, 3), 8);
        model.begin(new int[] {2, 1, 1, 8, 4}, 0, 1, 2, 3);
        CHECKS.due(call + ", word(0, 0)", x.word(0, 0), model.word(0, 0));
        CHECKS.due(call + ", word(1, 127)", x.word(1, 127), model.word(1, 127));
    }

    private static void beginWithOneRegister() {
        for (int secret = -1; secret < 8; secret++) {
            for (int data = -1; data < 8; data++) {
                SlowSeal x = Samples.ready();
                Model model = Samples.readyModel();
                int password = (secret + data + 8) % 8;
                String call = "begin with password " + password + ", secret " + secret + ", data " + data;
                CHECKS.due(call, x.begin(2, 1, 1, 8, 32, password, 1, secret, data), 8);
                model.begin(new int[] {2, 1, 1, 8, 32}, password, 1, secret, data);
                CHECKS.due(call, x.word(0, 0), model.word(0, 0));
                CHECKS.due(call, x.word(1, 127), model.word(1, 127));
            }
        }
    }

    private static void beginThatIsBadLeavesTheFilling() {
        int[][] changes = {
            {KIND, -1}, {KIND, 3}, {LANES, 0}, {LANES, 5}, {PASSES, 0}, {PASSES, 6}, {MEMORY, 7}, {MEMORY, 129},
            {TAG, 3}, {TAG, 129}, {PASSWORD, -1}, {PASSWORD, 8}, {SALT, -1}, {SALT, 8}, {SALT, 6}, {SALT, 7},
            {SECRET, -2}, {SECRET, 8}, {DATA, -2}, {DATA, 8}
        };
        int[] sizes = {2, 2, 2, 23, 40};
        int[] told = {2, 2, 2, 16, 5, 16, 40};
        Model model = Samples.filledModel(sizes, 5);
        Model done = Samples.filledModel(sizes, 16);
        done.tag(5);
        for (int[] change : changes) {
            SlowSeal x = Samples.filled(sizes, 5);
            x.clear(6);
            x.clear(7);
            x.add(7, 7, 1);
            int[] b = Samples.changed(FINE, change[0], change[1]);
            CHECKS.due("begin of " + Arrays.toString(b), begin(x, b), SlowSeal.BAD);
            for (int what = 0; what < 7; what++) {
                CHECKS.due("told(" + what + ") after BAD", x.told(what), told[what]);
            }
            for (int block = 0; block < 16; block++) {
                CHECKS.due("word(" + block + ", 9) after BAD", x.word(block, 9), model.word(block, 9));
            }
            CHECKS.due("fill(100) after BAD", x.fill(100), 11);
            CHECKS.due("tag(5) after BAD", x.tag(5), 40);
            CHECKS.dueBytes("the tag after BAD", x, 5, done.bytes(5));
        }
    }

    private static void beginThatIsBadBeginsNothing() {
        SlowSeal x = Samples.ready();
        x.clear(1);
        CHECKS.due("begin with an empty salt", begin(x, FINE), SlowSeal.BAD);
        CHECKS.due("begin of kind 3", begin(x, Samples.changed(FINE, KIND, 3)), SlowSeal.BAD);
        CHECKS.due("fill(1)", x.fill(1), SlowSeal.REFUSED);
        CHECKS.due("tag(0)", x.tag(0), SlowSeal.REFUSED);
        for (int what = 0; what < 7; what++) {
            CHECKS.due("told(" + what + ")", x.told(what), 0);
        }
        for (int block = 0; block < 128; block++) {
            CHECKS.due("word(" + block + ", 0)", x.word(block, 0), 0);
        }
    }

    private static void beginAgainForgets() {
        int[] sizes = {1, 3, 1, 50, 9};
        long[][] fresh = Samples.memoryOf(sizes, 0);
        for (int block = 0; block < fresh.length; block++) {
            SlowSeal x = Samples.ready();
            x.seal(7, 0, 4, 2, 128, 4, 0, 1);
            CHECKS.due("begin after another", Samples.beginOf(x, sizes), 48);
            for (int k = 0; k < 128; k++) {
                CHECKS.due("word(" + block + ", " + k + ")", x.word(block, k), fresh[block][k]);
            }
            for (int far = 48; far < 128; far++) {
                CHECKS.due("word(" + far + ", " + block + ")", x.word(far, block), 0);
            }
            CHECKS.due("tag(0)", x.tag(0), SlowSeal.REFUSED);
        }
    }

    private static void beginInTheMidst() {
        int[] sizes = {2, 2, 2, 32, 40};
        int[] told = {2, 2, 2, 32, 0, 16, 40};
        Model model = Samples.filledModel(sizes, 16);
        model.tag(7);
        for (int done = 0; done <= 16; done++) {
            SlowSeal x = Samples.filled(new int[] {0, 4, 1, 128, 99}, done);
            CHECKS.due("begin after " + done, Samples.beginOf(x, sizes), 32);
            for (int what = 0; what < 7; what++) {
                CHECKS.due("told(" + what + ")", x.told(what), told[what]);
            }
            CHECKS.due("tag(7)", x.tag(7), SlowSeal.REFUSED);
            CHECKS.due("fill(100)", x.fill(100), 16);
            x.tag(7);
            CHECKS.dueBytes("the tag", x, 7, model.bytes(7));
        }
    }

    private static void beginLeavesRegisters() {
        SlowSeal x = Samples.ready();
        begin(x, FINE);
        for (int r = 0; r < 8; r++) {
            CHECKS.dueBytes("register " + r, x, r, Samples.readyModel().bytes(r));
        }
    }

    private static void beginTakesItsInputsAtOnce() {
        int[] sizes = {2, 1, 2, 16, 64};
        SlowSeal x = Samples.filled(sizes, 0);
        Model model = Samples.filledModel(sizes, 8);
        for (int r = 0; r < 4; r++) {
            x.clear(r);
        }
        x.hash(4, 5, 6, 64);
        x.fill(3);
        x.longHash(5, 4, 200);
        x.fill(5);
        model.tag(7);
        CHECKS.due("tag", x.tag(7), 64);
        CHECKS.dueBytes("the tag", x, 7, model.bytes(7));
    }
}

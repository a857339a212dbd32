/** Promise 10: word k (0 .. 127) of a block as it is now. 0, if there is none such. */
public final class Promise10WordTest {
    private static final Checks CHECKS = new Checks("Promise 10, word");
    private static final int[] FAR_OUT = {-2, -128, 129, 256, Integer.MIN_VALUE, Integer.MAX_VALUE};

    public static void main(String[] args) {
        CHECKS.test("words 0 and 127 of the first and the last block", Promise10WordTest::wordAtTheEnds);
        CHECKS.test("each word of each block", Promise10WordTest::wordOfEach);
        CHECKS.test("k below 0 gives 0", Promise10WordTest::wordOfTooSmallAPlace);
        CHECKS.test("k above 127 gives 0", Promise10WordTest::wordOfTooLargeAPlace);
        CHECKS.test("a block below 0 gives 0", Promise10WordTest::wordOfABlockBelowZero);
        CHECKS.test("a block behind the last gives 0", Promise10WordTest::wordBehindTheLastBlock);
        CHECKS.test("memory that is cut off has no blocks", Promise10WordTest::wordOfMemoryCutOff);
        CHECKS.test("blocks of a larger filling before are none", Promise10WordTest::wordOfALargerFillingBefore);
        CHECKS.test("before any filling each gives 0", Promise10WordTest::wordBeforeAnyFilling);
        CHECKS.test("a block that is not done yet gives 0", Promise10WordTest::wordOfABlockToCome);
        CHECKS.test("as it is now, after each pass another", Promise10WordTest::wordAfterEachPass);
        CHECKS.test("it changes nothing", Promise10WordTest::wordChangesNothing);
        CHECKS.end();
    }

    private static void wordAtTheEnds() {
        int[] sizes = {0, 4, 2, 128, 4};
        SlowSeal x = Samples.filled(sizes, 32);
        Model model = Samples.filledModel(sizes, 32);
        for (int block : new int[] {0, 127}) {
            for (int k : new int[] {0, 127}) {
                CHECKS.due("word(" + block + ", " + k + ")", x.word(block, k), model.word(block, k));
                CHECKS.dueTrue("word(" + block + ", " + k + ") is not 0", x.word(block, k) != 0);
            }
        }
    }

    private static void wordOfEach() {
        int[] sizes = {2, 2, 2, 21, 4};
        long[][] memory = Samples.memoryOf(sizes, 11);
        Model model = Samples.filledModel(sizes, 11);
        for (int block = 0; block < 16; block++) {
            for (int k = 0; k < 128; k++) {
                CHECKS.due("word(" + block + ", " + k + ")", memory[block][k], model.word(block, k));
            }
        }
    }

    private static void wordOfTooSmallAPlace() {
        SlowSeal x = Samples.filled(new int[] {0, 1, 1, 8, 4}, 4);
        for (int block = 0; block < 8; block++) {
            CHECKS.due("word(" + block + ", -1)", x.word(block, -1), 0);
            for (int k : FAR_OUT) {
                CHECKS.due("word(" + block + ", " + k + ")", x.word(block, k), 0);
            }
        }
    }

    private static void wordOfTooLargeAPlace() {
        SlowSeal x = Samples.filled(new int[] {0, 1, 1, 8, 4}, 4);
        for (int block = 0; block < 8; block++) {
            CHECKS.due("word(" + block + ", 128)", x.word(block, 128), 0);
            CHECKS.due("word(" + block + ", 255)", x.word(block, 255), 0);
        }
    }

    private static void wordOfABlockBelowZero() {
        SlowSeal x = Samples.filled(new int[] {0, 4, 1, 128, 4}, 16);
        for (int k : new int[] {0, 1, 127, 128, -1}) {
            CHECKS.due("word(-1, " + k + ")", x.word(-1, k), 0);
            for (int block : FAR_OUT) {
                CHECKS.due("word(" + block + ", " + k + ")", x.word(block, k), 0);
            }
        }
    }

    private static void wordBehindTheLastBlock() {
        for (int memory = 8; memory <= 128; memory += 4) {
            SlowSeal x = Samples.filled(new int[] {0, 1, 1, memory, 4}, 4);
            CHECKS.dueTrue("the last of " + memory, x.word(memory - 1, 0) != 0);
            for (int block = memory; block <= 130; block++) {
                CHECKS.due("word(" + block + ", 0) of " + memory, x.word(block, 0), 0);
                CHECKS.due("word(" + block + ", 127) of " + memory, x.word(block, 127), 0);
            }
        }
    }

    private static void wordOfMemoryCutOff() {
        for (int lanes = 1; lanes <= 4; lanes++) {
            int memory = 12 * lanes - 1;
            SlowSeal x = Samples.filled(new int[] {1, lanes, 2, memory, 4}, 8 * lanes);
            CHECKS.dueTrue("the last block", x.word(8 * lanes - 1, 7) != 0);
            for (int block = 8 * lanes; block <= memory; block++) {
                CHECKS.due("word(" + block + ", 7)", x.word(block, 7), 0);
            }
        }
    }

    private static void wordOfALargerFillingBefore() {
        SlowSeal x = Samples.filled(new int[] {0, 1, 1, 128, 4}, 4);
        CHECKS.dueTrue("word(127, 0)", x.word(127, 0) != 0);
        x.begin(0, 1, 1, 8, 4, 0, 1, -1, -1);
        for (int block = 8; block < 128; block++) {
            CHECKS.due("word(" + block + ", 0) after begin", x.word(block, 0), 0);
        }
        x.fill(100);
        for (int block = 8; block < 128; block++) {
            CHECKS.due("word(" + block + ", 127) after fill", x.word(block, 127), 0);
        }
    }

    private static void wordBeforeAnyFilling() {
        SlowSeal x = Samples.ready();
        x.begin(0, 1, 1, 8, 4, 0, 8, -1, -1);
        for (int block = -1; block <= 128; block++) {
            CHECKS.due("word(" + block + ", 0)", x.word(block, 0), 0);
            CHECKS.due("word(" + block + ", 127)", x.word(block, 127), 0);
        }
    }

    private static void wordOfABlockToCome() {
        SlowSeal x = Samples.filled(new int[] {1, 2, 1, 32, 4}, 0);
        for (int slice = 0; slice < 4; slice++) {
            for (int lane = 0; lane < 2; lane++) {
                int block = 16 * lane + 4 * slice + 3;
                CHECKS.due("word(" + block + ", 0) before its segment", x.word(block, 0), 0);
                x.fill(1);
                CHECKS.dueTrue("word(" + block + ", 0) after its segment", x.word(block, 0) != 0);
            }
        }
    }

    private static void wordAfterEachPass() {
        for (int pass = 1; pass < 5; pass++) {
            int[] sizes = {0, 1, 5, 16, 4};
            SlowSeal x = Samples.filled(sizes, 4 * pass);
            Model model = Samples.filledModel(sizes, 4 * pass);
            for (int block = 0; block < 16; block++) {
                long was = x.word(block, 50);
                CHECKS.due("word(" + block + ", 50) after pass " + pass, was, model.word(block, 50));
            }
            x.fill(4);
            model.fill(4);
            for (int block = 0; block < 16; block++) {
                CHECKS.due("word(" + block + ", 50) a pass later", x.word(block, 50), model.word(block, 50));
            }
        }
    }

    private static void wordChangesNothing() {
        SlowSeal x = Samples.filled(new int[] {0, 1, 2, 8, 4}, 3);
        long word = x.word(3, 3);
        x.word(-1, -1);
        x.word(8, 128);
        CHECKS.due("word(3, 3) again", x.word(3, 3), word);
        CHECKS.due("told(4)", x.told(4), 3);
        CHECKS.due("fill(100)", x.fill(100), 5);
    }
}

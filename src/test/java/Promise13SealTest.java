import java.util.Arrays;

/** Promise 13: all at once, by begin(), fill() and tag(); what was filled is that then. */
public final class Promise13SealTest {
    private static final Checks CHECKS = new Checks("Promise 13, seal");
    private static final int TO = 0;
    private static final int KIND = 1;
    private static final int LANES = 2;
    private static final int PASSES = 3;
    private static final int MEMORY = 4;
    private static final int TAG = 5;
    private static final int PASSWORD = 6;
    private static final int SALT = 7;
    /** A seal that is fine, to be changed in one number. */
    private static final int[] FINE = {4, 0, 1, 1, 128, 32, 0, 1};

    public static void main(String[] args) {
        CHECKS.test("all at once, as begin, fill and tag", Promise13SealTest::sealIsTheStepsTogether);
        CHECKS.test("what was filled is that then", Promise13SealTest::sealLeavesItsFilling);
        CHECKS.test("without secret and data", Promise13SealTest::sealHasNoSecretAndData);
        CHECKS.test("the smallest and the largest", Promise13SealTest::sealOfTheSmallestAndLargest);
        CHECKS.test("KIND below 0 or above 2 is BAD", Promise13SealTest::sealOfNoKindIsBad);
        CHECKS.test("LANES below 1 or above 4 is BAD", Promise13SealTest::sealOfNoLanesIsBad);
        CHECKS.test("PASSES below 1 or above 5 is BAD", Promise13SealTest::sealOfNoPassesIsBad);
        CHECKS.test("MEMORY below 8 for each lane or above 128 is BAD", Promise13SealTest::sealOfNoMemoryIsBad);
        CHECKS.test("TAG below 4 or above 128 is BAD", Promise13SealTest::sealOfNoTagIsBad);
        CHECKS.test("no such register to give to is BAD", Promise13SealTest::sealToNoRegisterIsBad);
        CHECKS.test("no such password is BAD, NONE too", Promise13SealTest::sealWithNoPasswordIsBad);
        CHECKS.test("no such salt is BAD, NONE too", Promise13SealTest::sealWithNoSaltIsBad);
        CHECKS.test("a salt of fewer than 8 bytes is BAD", Promise13SealTest::sealWithTooShortASaltIsBad);
        CHECKS.test("a password without bytes is fine", Promise13SealTest::sealWithAnEmptyPassword);
        CHECKS.test("BAD: what was filled stays, and the registers", Promise13SealTest::sealThatIsBadLeavesAll);
        CHECKS.test("BAD of a new object: nothing is begun", Promise13SealTest::sealThatIsBadBeginsNothing);
        CHECKS.test("one register several times: what it gives comes last", Promise13SealTest::sealOntoItsInputs);
        CHECKS.test("what it gives takes the place of what was there", Promise13SealTest::sealReplaces);
        CHECKS.test("other registers stay", Promise13SealTest::sealLeavesOthers);
        CHECKS.test("in the midst of another filling", Promise13SealTest::sealInTheMidst);
        CHECKS.test("again and again, up to an object's 512 calls", Promise13SealTest::sealAgainAndAgain);
        CHECKS.end();
    }

    private static int seal(SlowSeal x, int[] s) {
        return x.seal(s[TO], s[KIND], s[LANES], s[PASSES], s[MEMORY], s[TAG], s[PASSWORD], s[SALT]);
    }

    private static int seal(Model model, int[] s) {
        return model.seal(s[TO], Arrays.copyOfRange(s, KIND, TAG + 1), s[PASSWORD], s[SALT]);
    }

    private static void dueSeal(int[] s, int want) {
        CHECKS.due("seal of " + Arrays.toString(s), seal(Samples.ready(), s), want);
    }

    /** That one number is fine from its least to its most and BAD outside of them. */
    private static void dueWithin(int place, int least, int most) {
        for (int fine : new int[] {least, most}) {
            dueSeal(Samples.changed(FINE, place, fine), place == TAG ? fine : 32);
        }
        for (int wrong : new int[] {least - 1, most + 1, least - 100, most + 100, Integer.MIN_VALUE, Integer.MAX_VALUE}) {
            dueSeal(Samples.changed(FINE, place, wrong), SlowSeal.BAD);
        }
    }

    private static void dueSame(int[] s) {
        SlowSeal x = Samples.ready();
        Model model = Samples.readyModel();
        String call = "seal of " + Arrays.toString(s);
        CHECKS.due(call, seal(x, s), seal(model, s));
        CHECKS.dueBytes(call, x, s[TO], model.bytes(s[TO]));
    }

    private static void sealIsTheStepsTogether() {
        for (int kind = 0; kind < 3; kind++) {
            for (int lanes = 1; lanes < 5; lanes++) {
                for (int passes = 1; passes < 6; passes++) {
                    int memory = 8 * lanes + 7 * passes;
                    dueSame(new int[] {1, kind, lanes, passes, memory, 4 + memory, 2, 3});
                    dueSame(new int[] {1, kind, lanes, passes, 128, 7, 2, 3});
                    sameAsSteps(new int[] {1, kind, lanes, passes, memory, 4 + memory, 2, 3});
                }
            }
        }
    }

    /** By the class's own begin, fill and tag, and so not by the model. */
    private static void sameAsSteps(int[] s) {
        SlowSeal x = Samples.ready();
        x.begin(s[KIND], s[LANES], s[PASSES], s[MEMORY], s[TAG], s[PASSWORD], s[SALT], SlowSeal.NONE, SlowSeal.NONE);
        while (x.fill(1) == 1) {
            continue;
        }
        x.tag(s[TO]);
        SlowSeal atOnce = Samples.ready();
        seal(atOnce, s);
        CHECKS.dueBytes("seal of " + Arrays.toString(s), atOnce, s[TO], Samples.bytesIn(x, s[TO]));
    }

    private static void sealLeavesItsFilling() {
        for (int kind = 0; kind < 3; kind++) {
            int[] s = {1, kind, 3, 4, 100, 44, 2, 3};
            SlowSeal x = Samples.ready();
            Model model = Samples.readyModel();
            seal(x, s);
            seal(model, s);
            int[] told = {kind, 3, 4, 96, 48, 48, 44};
            for (int what = 0; what < 7; what++) {
                CHECKS.due("told(" + what + ")", x.told(what), told[what]);
            }
            for (int block = 0; block < 128; block++) {
                int k = block * 37 % 128;
                CHECKS.due("word(" + block + ", " + k + ")", x.word(block, k), model.word(block, k));
            }
            CHECKS.due("fill(1)", x.fill(1), 0);
            CHECKS.due("tag(6)", x.tag(6), 44);
            CHECKS.dueBytes("tag(6)", x, 6, model.bytes(1));
        }
    }

    private static void sealHasNoSecretAndData() {
        SlowSeal x = Samples.ready();
        x.begin(0, 1, 1, 8, 32, 0, 1, 2, 3);
        x.fill(4);
        seal(x, Samples.changed(FINE, MEMORY, 8));
        Model model = Samples.readyModel();
        seal(model, Samples.changed(FINE, MEMORY, 8));
        CHECKS.dueBytes("seal after a filling with both", x, 4, model.bytes(4));
    }

    private static void sealOfTheSmallestAndLargest() {
        for (int kind = 0; kind < 3; kind++) {
            dueSame(new int[] {0, kind, 1, 1, 8, 4, 0, 1});
            dueSame(new int[] {7, kind, 4, 5, 128, 128, 7, 7});
        }
    }

    private static void sealOfNoKindIsBad() {
        dueWithin(KIND, 0, 2);
    }

    private static void sealOfNoLanesIsBad() {
        dueWithin(LANES, 1, 4);
        dueSeal(Samples.changed(FINE, LANES, 1 << 29), SlowSeal.BAD);
    }

    private static void sealOfNoPassesIsBad() {
        dueWithin(PASSES, 1, 5);
    }

    private static void sealOfNoMemoryIsBad() {
        for (int lanes = 1; lanes <= 4; lanes++) {
            int[] s = Samples.changed(FINE, LANES, lanes);
            for (int memory : new int[] {8 * lanes, 128}) {
                dueSeal(Samples.changed(s, MEMORY, memory), 32);
            }
            for (int memory : new int[] {8 * lanes - 1, 0, -1, 129, Integer.MIN_VALUE, Integer.MAX_VALUE}) {
                dueSeal(Samples.changed(s, MEMORY, memory), SlowSeal.BAD);
            }
        }
    }

    private static void sealOfNoTagIsBad() {
        dueWithin(TAG, 4, 128);
    }

    private static void sealToNoRegisterIsBad() {
        dueNoRegister(TO);
    }

    private static void sealWithNoPasswordIsBad() {
        dueNoRegister(PASSWORD);
    }

    private static void sealWithNoSaltIsBad() {
        dueNoRegister(SALT);
    }

    private static void dueNoRegister(int place) {
        for (int r : Samples.NO_REGISTERS) {
            dueSeal(Samples.changed(FINE, place, r), SlowSeal.BAD);
        }
        dueSeal(Samples.changed(FINE, place, 0), 32);
        dueSeal(Samples.changed(FINE, place, 7), 32);
    }

    private static void sealWithTooShortASaltIsBad() {
        SlowSeal x = new SlowSeal();
        for (int size = 0; size < 8; size++) {
            CHECKS.due("a salt of " + size, x.seal(2, 0, 1, 1, 8, 4, 0, 1), SlowSeal.BAD);
            x.add(1, 1, size);
        }
        CHECKS.due("a salt of 8", x.seal(2, 0, 1, 1, 8, 4, 0, 1), 4);
        x.add(1, 1, 8);
        CHECKS.due("a salt of 9", x.seal(2, 0, 1, 1, 8, 4, 0, 1), 4);
    }

    /** From the C library libargon2. */
    private static void sealWithAnEmptyPassword() {
        SlowSeal x = new SlowSeal();
        Samples.put(x, 1, Samples.rising(50, 8));
        CHECKS.due("seal", x.seal(2, 0, 1, 1, 8, 4, 0, 1), 4);
        CHECKS.dueHex("seal", x, 2, "a6a25d52");
    }

    private static void sealThatIsBadLeavesAll() {
        int[][] changes = {
            {TO, -1}, {TO, 8}, {KIND, -1}, {KIND, 3}, {LANES, 0}, {LANES, 5}, {PASSES, 0}, {PASSES, 6}, {MEMORY, 7},
            {MEMORY, 129}, {TAG, 3}, {TAG, 129}, {PASSWORD, -1}, {PASSWORD, 8}, {SALT, -1}, {SALT, 8}, {SALT, 6},
            {SALT, 7}
        };
        int[] sizes = {2, 2, 2, 23, 40};
        int[] told = {2, 2, 2, 16, 5, 16, 40};
        Model model = Samples.filledModel(sizes, 5);
        Model done = Samples.filledModel(sizes, 16);
        done.tag(5);
        for (int[] change : changes) {
            SlowSeal x = Samples.filled(sizes, 5);
            x.clear(6);
            x.clear(7);
            x.add(7, 7, 1);
            int[] s = Samples.changed(FINE, change[0], change[1]);
            CHECKS.due("seal of " + Arrays.toString(s), seal(x, s), SlowSeal.BAD);
            for (int r = 0; r < 6; r++) {
                CHECKS.dueBytes("register " + r + " after BAD", x, r, model.bytes(r));
            }
            for (int what = 0; what < 7; what++) {
                CHECKS.due("told(" + what + ") after BAD", x.told(what), told[what]);
            }
            for (int block = 0; block < 16; block++) {
                CHECKS.due("word(" + block + ", 9) after BAD", x.word(block, 9), model.word(block, 9));
            }
            CHECKS.due("fill(100) after BAD", x.fill(100), 11);
            CHECKS.due("tag(5) after BAD", x.tag(5), 40);
            CHECKS.dueBytes("the tag after BAD", x, 5, done.bytes(5));
        }
    }

    private static void sealThatIsBadBeginsNothing() {
        SlowSeal x = Samples.ready();
        CHECKS.due("seal to 8", seal(x, Samples.changed(FINE, TO, 8)), SlowSeal.BAD);
        CHECKS.due("seal of kind 3", seal(x, Samples.changed(FINE, KIND, 3)), SlowSeal.BAD);
        CHECKS.due("fill(1)", x.fill(1), SlowSeal.REFUSED);
        CHECKS.due("tag(0)", x.tag(0), SlowSeal.REFUSED);
        CHECKS.due("told(1)", x.told(1), 0);
        CHECKS.due("word(0, 0)", x.word(0, 0), 0);
    }

    private static void sealOntoItsInputs() {
        for (int r = 0; r < 8; r++) {
            dueSame(new int[] {r, 1, 1, 1, 8, 99, r, r});
            dueSame(new int[] {r, 1, 1, 1, 8, 99, (r + 1) % 8, r});
            dueSame(new int[] {r, 1, 1, 1, 8, 99, r, (r + 1) % 8});
        }
    }

    private static void sealReplaces() {
        SlowSeal x = Samples.ready();
        Samples.put(x, 4, Samples.rising(0, 200));
        CHECKS.due("seal onto 200 bytes", seal(x, Samples.changed(FINE, TAG, 4)), 4);
        CHECKS.due("its size", x.size(4), 4);
        CHECKS.due("behind it", x.at(4, 4), SlowSeal.NONE);
        CHECKS.due("seal onto 4 bytes", seal(x, Samples.changed(FINE, TAG, 128)), 128);
        CHECKS.due("its size", x.size(4), 128);
    }

    private static void sealLeavesOthers() {
        for (int to = 0; to < 8; to++) {
            SlowSeal x = Samples.ready();
            seal(x, Samples.changed(FINE, TO, to));
            for (int r = 0; r < 8; r++) {
                if (r != to) {
                    CHECKS.dueBytes("register " + r, x, r, Samples.readyModel().bytes(r));
                }
            }
        }
    }

    private static void sealInTheMidst() {
        Model model = Samples.readyModel();
        seal(model, FINE);
        for (int done = 0; done <= 16; done++) {
            SlowSeal x = Samples.filled(new int[] {2, 4, 1, 128, 99}, done);
            CHECKS.due("seal after " + done, seal(x, FINE), 32);
            CHECKS.dueBytes("seal after " + done, x, 4, model.bytes(4));
            CHECKS.due("told(4)", x.told(4), 4);
        }
    }

    /** 8 calls to make it ready, 471 seals, and 33 to look at the last. */
    private static void sealAgainAndAgain() {
        SlowSeal x = Samples.ready();
        Model model = Samples.readyModel();
        for (int i = 0; i < 471; i++) {
            int[] s = {i % 8, i % 3, 1 + i % 4, 1 + i % 2, 32 + i % 9, 32, (i + 1) % 8, (i + 5) % 8};
            CHECKS.due("seal no. " + i, seal(x, s), seal(model, s));
        }
        CHECKS.dueBytes("the last seal", x, 470 % 8, model.bytes(470 % 8));
    }
}

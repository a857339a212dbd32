import java.util.ArrayList;
import java.util.Arrays;
import java.util.List;
import java.util.function.Predicate;

/** Promise 9: n (1 .. 100) segments are done, or as many as there are still: how many. */
public final class Promise09FillTest {
    private static final Checks CHECKS = new Checks("Promise 9, fill");
    /** Every number of lanes in every kind, the smallest slices and odd ones, several passes. */
    private static final int[][] LOOKED_AT = {
        {0, 1, 2, 8, 4}, {1, 1, 3, 12, 4}, {2, 1, 3, 40, 4}, {0, 2, 3, 37, 20}, {1, 2, 3, 16, 20},
        {2, 2, 2, 48, 20}, {0, 3, 3, 24, 99}, {1, 3, 2, 60, 99}, {2, 3, 3, 36, 99},
        {0, 4, 2, 64, 128}, {1, 4, 3, 32, 128}, {2, 4, 3, 50, 128}
    };
    private static final List<FarBlocks.Step> STEPS = new ArrayList<>();

    public static void main(String[] args) {
        CHECKS.test("each segment can be looked at by itself", Promise09FillTest::fillLookedAt);
        CHECKS.test("n below 1 is BAD", Promise09FillTest::fillOfTooFewIsBad);
        CHECKS.test("n above 100 is BAD", Promise09FillTest::fillOfTooManyIsBad);
        CHECKS.test("BAD changes nothing", Promise09FillTest::fillThatIsBadChangesNothing);
        CHECKS.test("REFUSED: nothing was begun", Promise09FillTest::fillOfNothingIsRefused);
        CHECKS.test("a wrong n is BAD even if nothing was begun", Promise09FillTest::fillWronglyOfNothingIsBad);
        CHECKS.test("n segments are done", Promise09FillTest::fillInParts);
        CHECKS.test("or as many as there are still", Promise09FillTest::fillOfWhatIsLeft);
        CHECKS.test("behind the last segment 0, and nothing changes", Promise09FillTest::fillBehindTheLast);
        CHECKS.test("the most segments, 80, in one call", Promise09FillTest::fillOfTheMost);
        CHECKS.test("the words after each segment", Promise09FillTest::fillSegmentBySegment);
        CHECKS.test("a segment changes its slice of its lane alone, in the order of passes, slices, lanes",
            Promise09FillTest::fillInOrder);
        CHECKS.test("in the first slice of the first pass from block 2 on", Promise09FillTest::fillFromBlockTwoOn);
        CHECKS.test("a first slice of two blocks has none to do, and counts", Promise09FillTest::fillOfASliceOfTwo);
        CHECKS.test("a block is JOIN of the one before and a far one, in later passes ^ what it was",
            Promise09FillTest::fillJoinsTwo);
        CHECKS.test("before block 0 is the last one of its lane", Promise09FillTest::fillOfBlockZero);
        CHECKS.test("the first slice of the first pass stays in its lane", Promise09FillTest::fillStaysInItsLaneAtFirst);
        CHECKS.test("else the lane is K modulo p", Promise09FillTest::fillGoesToLaneK);
        CHECKS.test("the window of the first pass in its own lane: before the one before it",
            Promise09FillTest::fillFirstPassOwnLane);
        CHECKS.test("the window of the first pass in another lane: finished slices, one less if i is 0",
            Promise09FillTest::fillFirstPassOtherLane);
        CHECKS.test("the window of later passes in its own lane", Promise09FillTest::fillLaterPassOwnLane);
        CHECKS.test("the window of later passes in another lane, one less if i is 0",
            Promise09FillTest::fillLaterPassOtherLane);
        CHECKS.test("a window of one block", Promise09FillTest::fillWithAWindowOfOne);
        CHECKS.test("in the first pass it is block y", Promise09FillTest::fillFirstPassPlace);
        CHECKS.test("in later passes first + y that does not run over q", Promise09FillTest::fillLaterPassPlace);
        CHECKS.test("in later passes first + y that runs over q", Promise09FillTest::fillLaterPassWraps);
        CHECKS.test("behind the last slice first is 0", Promise09FillTest::fillLastSliceBeginsAtZero);
        CHECKS.test("KIND 2 changes its way after slice 1 of the first pass", Promise09FillTest::fillOfKindTwoChanges);
        CHECKS.test("registers stay", Promise09FillTest::fillLeavesRegisters);
        CHECKS.end();
    }

    /** Finds the steps that tests below ask for. */
    private static void fillLookedAt() {
        for (int[] s : LOOKED_AT) {
            List<FarBlocks.Step> steps = FarBlocks.of(s);
            int firsts = 2 * s[1];
            CHECKS.due("blocks done of " + Arrays.toString(s), steps.size(),
                s[2] * (s[3] / (4 * s[1]) * 4 * s[1]) - firsts);
            STEPS.addAll(steps);
        }
    }

    private static void fillOfTooFewIsBad() {
        SlowSeal x = Samples.filled(new int[] {0, 1, 1, 8, 4}, 0);
        for (int n : new int[] {0, -1, -100, Integer.MIN_VALUE}) {
            CHECKS.due("fill(" + n + ")", x.fill(n), SlowSeal.BAD);
        }
        CHECKS.due("fill(1)", x.fill(1), 1);
    }

    private static void fillOfTooManyIsBad() {
        SlowSeal x = Samples.filled(new int[] {0, 1, 1, 8, 4}, 0);
        for (int n : new int[] {101, 102, 1000, Integer.MAX_VALUE}) {
            CHECKS.due("fill(" + n + ")", x.fill(n), SlowSeal.BAD);
        }
        CHECKS.due("fill(100)", x.fill(100), 4);
    }

    private static void fillThatIsBadChangesNothing() {
        int[] sizes = {2, 2, 2, 24, 40};
        SlowSeal x = Samples.filled(sizes, 5);
        Model model = Samples.filledModel(sizes, 5);
        for (int n : new int[] {0, -1, 101, Integer.MIN_VALUE, Integer.MAX_VALUE}) {
            x.fill(n);
            CHECKS.due("told(4) after fill(" + n + ")", x.told(4), 5);
            for (int block = 0; block < 24; block++) {
                CHECKS.due("word(" + block + ", 5)", x.word(block, 5), model.word(block, 5));
            }
        }
    }

    private static void fillOfNothingIsRefused() {
        SlowSeal x = Samples.ready();
        CHECKS.due("fill(1)", x.fill(1), SlowSeal.REFUSED);
        CHECKS.due("fill(100)", x.fill(100), SlowSeal.REFUSED);
        x.begin(3, 1, 1, 8, 4, 0, 1, -1, -1);
        CHECKS.due("fill(1) after a begin that is BAD", x.fill(1), SlowSeal.REFUSED);
        x.seal(8, 0, 1, 1, 8, 4, 0, 1);
        CHECKS.due("fill(1) after a seal that is BAD", x.fill(1), SlowSeal.REFUSED);
        x.begin(0, 1, 1, 8, 4, 0, 1, -1, -1);
        CHECKS.due("fill(1) after begin", x.fill(1), 1);
    }

    private static void fillWronglyOfNothingIsBad() {
        SlowSeal x = Samples.ready();
        for (int n : new int[] {0, -1, 101, Integer.MIN_VALUE, Integer.MAX_VALUE}) {
            CHECKS.due("fill(" + n + ")", x.fill(n), SlowSeal.BAD);
        }
    }

    private static void fillInParts() {
        int[] sizes = {2, 4, 5, 32, 32};
        Model model = Samples.filledModel(sizes, 80);
        model.tag(7);
        for (int n = 1; n <= 100; n++) {
            SlowSeal x = Samples.filled(sizes, 0);
            for (int left = 80; left > 0; left -= n) {
                CHECKS.due("fill(" + n + ") of " + left, x.fill(n), Math.min(n, left));
                CHECKS.due("then told(4)", x.told(4), 80 - left + Math.min(n, left));
            }
            CHECKS.due("tag after fill(" + n + ")s", x.tag(7), 32);
            CHECKS.dueBytes("tag after fill(" + n + ")s", x, 7, model.bytes(7));
        }
    }

    private static void fillOfWhatIsLeft() {
        for (int left = 0; left < 12; left++) {
            for (int n = 1; n <= 100; n += 9) {
                SlowSeal x = Samples.filled(new int[] {1, 3, 1, 24, 4}, 12 - left);
                CHECKS.due("fill(" + n + ") of " + left, x.fill(n), Math.min(left, n));
                CHECKS.due("then told(4)", x.told(4), 12 - left + Math.min(left, n));
            }
            SlowSeal x = Samples.filled(new int[] {1, 3, 1, 24, 4}, 12 - left);
            CHECKS.due("fill(" + (left + 1) + ") of " + left, x.fill(left + 1), left);
        }
    }

    private static void fillBehindTheLast() {
        for (int kind = 0; kind < 3; kind++) {
            int[] sizes = {kind, 2, 2, 24, 40};
            SlowSeal x = Samples.filled(sizes, 16);
            Model model = Samples.filledModel(sizes, 16);
            CHECKS.due("fill(1)", x.fill(1), 0);
            CHECKS.due("fill(100)", x.fill(100), 0);
            CHECKS.due("told(4)", x.told(4), 16);
            for (int block = 0; block < 24; block++) {
                CHECKS.due("word(" + block + ", 5)", x.word(block, 5), model.word(block, 5));
            }
            x.tag(7);
            model.tag(7);
            CHECKS.dueBytes("the tag", x, 7, model.bytes(7));
        }
    }

    private static void fillOfTheMost() {
        int[] sizes = {0, 4, 5, 128, 128};
        SlowSeal x = Samples.filled(sizes, 0);
        Model model = Samples.filledModel(sizes, 80);
        CHECKS.due("fill(100)", x.fill(100), 80);
        for (int block = 0; block < 128; block++) {
            CHECKS.due("word(" + block + ", 5)", x.word(block, 5), model.word(block, 5));
        }
    }

    private static void fillSegmentBySegment() {
        int[][] sizes = {
            {0, 1, 2, 8, 4}, {1, 1, 2, 9, 4}, {2, 1, 3, 128, 4}, {0, 2, 3, 37, 20}, {1, 2, 2, 16, 20},
            {2, 2, 2, 64, 20}, {0, 3, 5, 24, 99}, {1, 3, 2, 77, 99}, {2, 3, 2, 128, 99},
            {0, 4, 2, 32, 128}, {1, 4, 3, 128, 128}, {2, 4, 2, 50, 128}
        };
        for (int[] s : sizes) {
            Model model = Samples.filledModel(s, 0);
            for (int done = 1; done <= 4 * s[1] * s[2]; done++) {
                model.fill(1);
                oneMoreSegment(s, done, model);
            }
        }
    }

    /** On an object of its own, for looking at the words of all segments takes over 512 calls. */
    private static void oneMoreSegment(int[] s, int done, Model model) {
        String call = "segment " + done + " of " + Arrays.toString(s);
        SlowSeal x = Samples.filled(s, done - 1);
        CHECKS.due(call, x.fill(1), 1);
        CHECKS.due(call + ", told(4)", x.told(4), done);
        // A block that was joined otherwise differs in all words, so one of them is enough.
        for (int block = 0; block < model.told(3); block++) {
            int k = block * 37 % 128;
            CHECKS.due(call + ", word(" + block + ", " + k + ")", x.word(block, k), model.word(block, k));
        }
        for (int k = 0; k < 128; k++) {
            int block = done * 5 % model.told(3);
            CHECKS.due(call + ", word(" + block + ", " + k + ")", x.word(block, k), model.word(block, k));
        }
    }

    private static void fillInOrder() {
        int[][] sizes = {{0, 3, 2, 36, 4}, {1, 2, 2, 40, 4}, {2, 4, 2, 48, 4}};
        for (int[] s : sizes) {
            long[][] was = Samples.memoryOf(s, 0);
            int laneBlocks = was.length / s[1];
            for (int done = 0; done < 4 * s[1] * s[2]; done++) {
                long[][] is = Samples.memoryOf(s, done + 1);
                for (int block = 0; block < is.length; block++) {
                    boolean isIn = block / laneBlocks == done % s[1]
                        && block % laneBlocks / (laneBlocks / 4) == done / s[1] % 4
                        && (done >= s[1] || block % laneBlocks > 1);
                    CHECKS.dueTrue("segment " + done + " of " + Arrays.toString(s) + ", block " + block,
                        Arrays.equals(was[block], is[block]) != isIn);
                }
                was = is;
            }
        }
    }

    private static void fillFromBlockTwoOn() {
        for (int kind = 0; kind < 3; kind++) {
            int[] sizes = {kind, 2, 1, 32, 4};
            long[][] begun = Samples.memoryOf(sizes, 0);
            long[][] filled = Samples.memoryOf(sizes, 2);
            for (int block : new int[] {0, 1, 16, 17}) {
                CHECKS.dueTrue("block " + block + " stays", Arrays.equals(begun[block], filled[block]));
            }
            for (int block : new int[] {2, 3, 18, 19}) {
                CHECKS.dueTrue("block " + block + " is done", !Arrays.equals(begun[block], filled[block]));
            }
        }
    }

    private static void fillOfASliceOfTwo() {
        for (int lanes = 1; lanes <= 4; lanes++) {
            int[] sizes = {2, lanes, 1, 8 * lanes, 4};
            SlowSeal x = Samples.filled(sizes, 0);
            for (int lane = 0; lane < lanes; lane++) {
                CHECKS.due("fill(1) of " + lanes + " lanes", x.fill(1), 1);
                CHECKS.due("told(4)", x.told(4), lane + 1);
            }
            CHECKS.dueTrue("no words changed",
                Arrays.deepEquals(Samples.memoryOf(sizes, 0), Samples.memoryOf(sizes, lanes)));
            CHECKS.dueTrue("words change in the next segment",
                !Arrays.deepEquals(Samples.memoryOf(sizes, 0), Samples.memoryOf(sizes, lanes + 1)));
        }
    }

    /** Of those steps that are meant, of which there must be some, each must be as due. */
    private static void dueOfSteps(Predicate<FarBlocks.Step> isMeant, Predicate<FarBlocks.Step> isAsDue) {
        int meant = 0;
        for (FarBlocks.Step step : STEPS) {
            if (isMeant.test(step)) {
                meant++;
                CHECKS.dueTrue(step.toString(), step.far() >= 0 && isAsDue.test(step));
            }
        }
        CHECKS.dueTrue("there are such blocks", meant > 0);
    }

    private static void fillJoinsTwo() {
        dueOfSteps(s -> s.pass() == 0, s -> true);
        dueOfSteps(s -> s.pass() == 1, s -> true);
        dueOfSteps(s -> s.pass() == 2, s -> true);
    }

    private static void fillOfBlockZero() {
        dueOfSteps(s -> s.j() == 0 && s.lanes() == 1, s -> s.pass() > 0);
        dueOfSteps(s -> s.j() == 0 && s.lanes() > 1, s -> s.pass() > 0);
    }

    private static void fillStaysInItsLaneAtFirst() {
        dueOfSteps(s -> s.isFirstSlice() && s.numbers() >>> 32 != s.lane(), s -> s.isOwnLane());
        dueOfSteps(s -> s.isFirstSlice() && (s.numbers() >>> 32) % s.lanes() != s.lane(), s -> s.isOwnLane());
    }

    private static void fillGoesToLaneK() {
        dueOfSteps(s -> !s.isFirstSlice(), s -> s.farLane() == (s.numbers() >>> 32) % s.lanes());
        // Upper halves that would be below 0 as an int must not be taken so.
        dueOfSteps(s -> !s.isFirstSlice() && s.numbers() < 0 && s.lanes() == 3,
            s -> s.farLane() == (s.numbers() >>> 32) % s.lanes());
    }

    private static void fillFirstPassOwnLane() {
        dueOfSteps(s -> s.pass() == 0 && s.isOwnLane(), s -> s.farPlace() < s.j() - 1);
    }

    private static void fillFirstPassOtherLane() {
        dueOfSteps(s -> s.pass() == 0 && !s.isOwnLane() && s.i() > 0, s -> s.farPlace() < s.slice() * s.sliceBlocks());
        dueOfSteps(s -> s.pass() == 0 && !s.isOwnLane() && s.i() == 0,
            s -> s.farPlace() < s.slice() * s.sliceBlocks() - 1);
    }

    /** How many blocks of its lane behind this slice, running over q, the far one lies. */
    private static int behind(FarBlocks.Step s) {
        return Math.floorMod(s.farPlace() - s.first(), s.laneBlocks());
    }

    private static void fillLaterPassOwnLane() {
        dueOfSteps(s -> s.pass() > 0 && s.isOwnLane(), s -> behind(s) < s.laneBlocks() - s.sliceBlocks() + s.i() - 1);
    }

    private static void fillLaterPassOtherLane() {
        dueOfSteps(s -> s.pass() > 0 && !s.isOwnLane() && s.i() > 0,
            s -> behind(s) < s.laneBlocks() - s.sliceBlocks());
        dueOfSteps(s -> s.pass() > 0 && !s.isOwnLane() && s.i() == 0,
            s -> behind(s) < s.laneBlocks() - s.sliceBlocks() - 1);
    }

    private static void fillWithAWindowOfOne() {
        dueOfSteps(s -> s.isFirstSlice() && s.i() == 2, s -> s.farPlace() == 0);
        dueOfSteps(s -> s.pass() == 0 && s.slice() == 1 && s.i() == 0 && s.sliceBlocks() == 2, s -> s.farPlace() == 0);
    }

    /** y, as the document says, whose products all fit into 64 bits. */
    private static long y(FarBlocks.Step s) {
        long finished = s.pass() == 0 ? s.slice() * s.sliceBlocks() : s.laneBlocks() - s.sliceBlocks();
        long u = s.isOwnLane() ? finished + s.i() - 1 : s.i() == 0 ? finished - 1 : finished;
        long j = s.numbers() & 0xFFFFFFFFL;
        long x = j * j >>> 32;
        return u - 1 - (u * x >>> 32);
    }

    private static void fillFirstPassPlace() {
        for (int kind = 0; kind < 3; kind++) {
            int itsKind = kind;
            dueOfSteps(s -> s.pass() == 0 && s.kind() == itsKind, s -> s.farPlace() == y(s));
        }
    }

    private static void fillLaterPassPlace() {
        dueOfSteps(s -> s.pass() > 0 && s.first() + y(s) < s.laneBlocks(), s -> s.farPlace() == s.first() + y(s));
        dueOfSteps(s -> s.pass() > 0 && s.first() + y(s) == s.laneBlocks() - 1,
            s -> s.farPlace() == s.laneBlocks() - 1);
    }

    private static void fillLaterPassWraps() {
        dueOfSteps(s -> s.pass() > 0 && s.first() + y(s) >= s.laneBlocks(),
            s -> s.farPlace() == s.first() + y(s) - s.laneBlocks());
        dueOfSteps(s -> s.pass() > 0 && s.first() + y(s) == s.laneBlocks(), s -> s.farPlace() == 0);
    }

    private static void fillLastSliceBeginsAtZero() {
        dueOfSteps(s -> s.pass() > 0 && s.slice() == 3, s -> s.farPlace() == y(s));
    }

    /** The numbers of a step are of the way that is due, so a far block by them shows the way. */
    private static void fillOfKindTwoChanges() {
        for (int slice = 0; slice < 4; slice++) {
            int itsSlice = slice;
            dueOfSteps(s -> s.kind() == 2 && s.pass() == 0 && s.slice() == itsSlice && s.sliceBlocks() > 2,
                s -> s.farPlace() == y(s));
            dueOfSteps(s -> s.kind() == 2 && s.pass() > 0 && s.slice() == itsSlice && s.sliceBlocks() > 2,
                s -> s.farPlace() == (s.first() + y(s)) % s.laneBlocks());
        }
    }

    private static void fillLeavesRegisters() {
        SlowSeal x = Samples.filled(new int[] {2, 4, 5, 128, 128}, 80);
        for (int r = 0; r < 8; r++) {
            CHECKS.dueBytes("register " + r, x, r, Samples.readyModel().bytes(r));
        }
    }
}

import java.util.ArrayList;
import java.util.Arrays;
import java.util.List;

/**
 * Which far block each block of a filling was joined with, found by trying all blocks on the words
 * before and after each segment, and so not by the rule that chose it.
 */
final class FarBlocks {
    /** One block that was done; far is the number of the far block, -1 if none or several fit. */
    record Step(int kind, int lanes, int laneBlocks, int pass, int slice, int lane, int i, long numbers, int far) {
        int sliceBlocks() {
            return laneBlocks / 4;
        }

        /** The block's place in its lane. */
        int j() {
            return slice * sliceBlocks() + i;
        }

        boolean isFirstSlice() {
            return pass == 0 && slice == 0;
        }

        int farLane() {
            return far / laneBlocks;
        }

        int farPlace() {
            return far % laneBlocks;
        }

        boolean isOwnLane() {
            return farLane() == lane;
        }

        /** Where the next slice begins, 0 behind the last. */
        int first() {
            return slice == 3 ? 0 : (slice + 1) * sliceBlocks();
        }

        @Override
        public String toString() {
            return "kind " + kind + " of " + lanes + " lanes of " + laneBlocks + ", pass " + pass + ", slice " + slice
                + ", lane " + lane + ", place " + i + ", joined with lane " + farLane() + ", block " + farPlace();
        }
    }

    private final int[] sizes;
    private final int laneBlocks;
    private final List<Step> steps = new ArrayList<>();

    private FarBlocks(int[] sizes) {
        this.sizes = sizes;
        laneBlocks = sizes[3] / (4 * sizes[1]) * 4;
    }

    static List<Step> of(int[] sizes) {
        FarBlocks found = new FarBlocks(sizes);
        long[][] was = Samples.memoryOf(sizes, 0);
        for (int done = 0; done < 4 * sizes[1] * sizes[2]; done++) {
            long[][] is = Samples.memoryOf(sizes, done + 1);
            found.segment(done, was, is);
            was = is;
        }
        return found.steps;
    }

    private void segment(int done, long[][] was, long[][] is) {
        int lanes = sizes[1];
        int lane = done % lanes;
        int slice = done / lanes % 4;
        int pass = done / lanes / 4;
        int sliceBlocks = laneBlocks / 4;
        long[][] now = was.clone();
        for (int i = pass == 0 && slice == 0 ? 2 : 0; i < sliceBlocks; i++) {
            int start = lane * laneBlocks;
            int j = slice * sliceBlocks + i;
            long[] before = now[start + (j == 0 ? laneBlocks - 1 : j - 1)];
            long[] old = pass == 0 ? new long[128] : was[start + j];
            int far = farOf(now, before, old, is[start + j]);
            long numbers = byAddress(pass, slice) ? address(pass, lane, slice)[i] : before[0];
            steps.add(new Step(sizes[0], lanes, laneBlocks, pass, slice, lane, i, numbers, far));
            now[start + j] = is[start + j];
        }
    }

    private static int farOf(long[][] now, long[] before, long[] old, long[] made) {
        int far = -1;
        int fitting = 0;
        for (int block = 0; block < now.length; block++) {
            if (Arrays.equals(Model.xor(Model.join(before, now[block]), old), made)) {
                far = block;
                fitting++;
            }
        }
        return fitting == 1 ? far : -1;
    }

    private boolean byAddress(int pass, int slice) {
        return sizes[0] == 1 || sizes[0] == 2 && pass == 0 && slice < 2;
    }

    private long[] address(int pass, int lane, int slice) {
        long[] z = new long[128];
        long[] head = {pass, lane, slice, (long) sizes[1] * laneBlocks, sizes[2], sizes[0], 1};
        System.arraycopy(head, 0, z, 0, head.length);
        return Model.join(new long[128], Model.join(new long[128], z));
    }
}

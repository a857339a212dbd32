/**
 * Seals of passwords that cost memory and time: a hash of bytes with or without a key, a longer one
 * made of it, and the filling of a memory of blocks, lane by lane and slice by slice, in three
 * kinds, of which each segment can be done and looked at by itself.
 */
public final class SlowSeal {
    public static final int NONE = -1;
    public static final int BAD = -2;
    public static final int REFUSED = -3;

    private static final int REGISTERS = 8;
    private static final int REGISTER_BYTES = 200;
    private static final int WORD_BYTES = 8;
    private static final int NUMBER_BYTES = 4;
    private static final int HASH_BYTES = 64;
    private static final int LEAST_SALT = 8;
    private static final int MOST_SEGMENTS_A_CALL = 100;

    private static final int BLOCK_WORDS = 128;
    private static final int BLOCK_BYTES = BLOCK_WORDS * WORD_BYTES;
    private static final int MOST_BLOCKS = 128;
    private static final int SLICES = 4;
    private static final int VERSION = 19;
    private static final long LOWER_HALF = 0xFFFFFFFFL;

    /** Which four of sixteen words are mixed together: four columns, then four diagonals. */
    private static final int[] FOURS = {
        0, 4, 8, 12, 1, 5, 9, 13, 2, 6, 10, 14, 3, 7, 11, 15,
        0, 5, 10, 15, 1, 6, 11, 12, 2, 7, 8, 13, 3, 4, 9, 14
    };
    private static final int FOUR_COUNT = 8;

    private final Bytes[] registers = new Bytes[REGISTERS];
    /** Stands wherever a call names NONE. */
    private final Bytes nothing = new Bytes(0);
    private final Bytes opening = new Bytes(HASH_BYTES);
    private final Hasher hasher = new Hasher();
    private final Filling filling = new Filling();

    public SlowSeal() {
        for (int r = 0; r < REGISTERS; r++) {
            registers[r] = new Bytes(REGISTER_BYTES);
        }
    }

    public int add(int r, int n, long w) {
        if (!isRegister(r) || n < 1 || n > WORD_BYTES) {
            return BAD;
        }
        Bytes register = bytesOf(r);
        if (register.count + n > REGISTER_BYTES) {
            return REFUSED;
        }
        register.putNumber(w, n);
        return register.count;
    }

    public int clear(int r) {
        if (!isRegister(r)) {
            return BAD;
        }
        Bytes register = bytesOf(r);
        int had = register.count;
        register.empty();
        return had;
    }

    public int size(int r) {
        return isRegister(r) ? bytesOf(r).count : BAD;
    }

    public int at(int r, int i) {
        return isRegister(r) ? bytesOf(r).byteAt(i) : BAD;
    }

    public int hash(int to, int from, int key, int n) {
        if (!isRegister(to) || !isRegister(from) || !isRegisterOrNone(key)) {
            return BAD;
        }
        Bytes keyBytes = bytesOf(key);
        if (n < 1 || n > HASH_BYTES || keyBytes.count > HASH_BYTES) {
            return BAD;
        }
        hasher.openWithKey(keyBytes);
        hasher.message.putAll(bytesOf(from));
        hasher.makeShort(n, keyBytes.count);
        bytesOf(to).become(hasher.made);
        return n;
    }

    public int longHash(int to, int from, int n) {
        if (!isRegister(to) || !isRegister(from) || n < 1 || n > REGISTER_BYTES) {
            return BAD;
        }
        hasher.openLong(n);
        hasher.message.putAll(bytesOf(from));
        hasher.makeLong(n);
        bytesOf(to).become(hasher.made);
        return n;
    }

    public int begin(int kind, int lanes, int passes, int memory, int tag, int password, int salt,
            int secret, int data) {
        if (!Filling.isPossible(kind, lanes, passes, memory, tag)) {
            return BAD;
        }
        if (!isRegister(password) || !isRegisterOrNone(secret) || !isRegisterOrNone(data)) {
            return BAD;
        }
        if (!isRegister(salt) || bytesOf(salt).count < LEAST_SALT) {
            return BAD;
        }
        filling.restart(kind, lanes, passes, memory, tag);
        hasher.message.empty();
        filling.putSettings(hasher.message, memory);
        putWithLength(password);
        putWithLength(salt);
        putWithLength(secret);
        putWithLength(data);
        hasher.makeShort(HASH_BYTES, 0);
        opening.become(hasher.made);
        layFirstBlocks();
        return filling.blocks();
    }

    public int fill(int n) {
        if (n < 1 || n > MOST_SEGMENTS_A_CALL) {
            return BAD;
        }
        if (!filling.isBegun()) {
            return REFUSED;
        }
        int doing = Math.min(n, filling.segments() - filling.done);
        for (int i = 0; i < doing; i++) {
            filling.doSegment();
        }
        return doing;
    }

    public long word(int block, int k) {
        return filling.wordOf(block, k);
    }

    public int tag(int to) {
        if (!isRegister(to)) {
            return BAD;
        }
        if (!filling.isBegun() || filling.done < filling.segments()) {
            return REFUSED;
        }
        hasher.openLong(filling.tagBytes);
        filling.putLastBlocks(hasher.message);
        hasher.makeLong(filling.tagBytes);
        bytesOf(to).become(hasher.made);
        return filling.tagBytes;
    }

    public int told(int what) {
        switch (what) {
            case 0: return filling.kind;
            case 1: return filling.lanes;
            case 2: return filling.passes;
            case 3: return filling.blocks();
            case 4: return filling.done;
            case 5: return filling.segments();
            case 6: return filling.tagBytes;
            default: return BAD;
        }
    }

    public int seal(int to, int kind, int lanes, int passes, int memory, int tag, int password,
            int salt) {
        // Looked at first, for a wrong register must leave what was filled as it is.
        if (!isRegister(to)) {
            return BAD;
        }
        int blocks = begin(kind, lanes, passes, memory, tag, password, salt, NONE, NONE);
        if (blocks == BAD) {
            return BAD;
        }
        // No filling has more segments (4 lanes, 4 slices, 5 passes) than one call may do.
        fill(MOST_SEGMENTS_A_CALL);
        return tag(to);
    }

    private static boolean isRegister(int r) {
        return r >= 0 && r < REGISTERS;
    }

    private static boolean isRegisterOrNone(int r) {
        return r == NONE || isRegister(r);
    }

    private Bytes bytesOf(int r) {
        return isRegister(r) ? registers[r] : nothing;
    }

    private void putWithLength(int r) {
        Bytes bytes = bytesOf(r);
        hasher.message.putNumber(bytes.count, NUMBER_BYTES);
        hasher.message.putAll(bytes);
    }

    private void layFirstBlocks() {
        for (int lane = 0; lane < filling.lanes; lane++) {
            for (int j = 0; j < 2; j++) {
                hasher.openLong(BLOCK_BYTES);
                hasher.message.putAll(opening);
                hasher.message.putNumber(j, NUMBER_BYTES);
                hasher.message.putNumber(lane, NUMBER_BYTES);
                hasher.makeLong(BLOCK_BYTES);
                filling.lay(lane, j, hasher.made);
            }
        }
    }

    private static long turnRight(long x, int k) {
        return x >>> k | x << (64 - k);
    }

    /** A row of bytes that grows up to the room it was made with; what would not fit is dropped. */
    private static final class Bytes {
        private final byte[] bytes;
        private int count;

        Bytes(int room) {
            bytes = new byte[Math.max(room, 0)];
        }

        void empty() {
            count = 0;
        }

        int byteAt(int i) {
            return i >= 0 && i < count ? bytes[i] & 255 : NONE;
        }

        /** Behind the last byte all are 0s, for so the last part of a message is filled up. */
        long wordAt(int start) {
            long word = 0;
            int end = Math.min(start + WORD_BYTES, count);
            for (int i = end - 1; i >= 0 && i >= start; i--) {
                word = word << 8 | bytes[i] & 255;
            }
            return word;
        }

        void put(int value) {
            if (count < bytes.length) {
                bytes[count] = (byte) value;
                count++;
            }
        }

        void putNumber(long value, int n) {
            for (int i = 0; i < n; i++) {
                put((int) (value >>> (8 * i)));
            }
        }

        void putAll(Bytes other) {
            for (int i = 0; i < other.count; i++) {
                put(other.byteAt(i));
            }
        }

        void become(Bytes other) {
            empty();
            putAll(other);
        }
    }

    /** HASH and LONG of the message that was put here; what they give is in made. */
    private static final class Hasher {
        private static final int PART_BYTES = 128;
        private static final int PART_WORDS = 16;
        private static final int STATE_WORDS = 8;
        private static final int ROUNDS = 12;
        private static final int ORDER_COUNT = 10;
        private static final int SETTINGS = 16842752;
        /** The longest message is that of a tag: a number and a block. */
        private static final int MESSAGE_BYTES = NUMBER_BYTES + BLOCK_BYTES;

        /** The first 64 bits behind the point of the square roots of the first eight primes. */
        private static final long[] START = {
            0x6a09e667f3bcc908L, 0xbb67ae8584caa73bL, 0x3c6ef372fe94f82bL, 0xa54ff53a5f1d36f1L,
            0x510e527fade682d1L, 0x9b05688c2b3e6c1fL, 0x1f83d9abfb41bd6bL, 0x5be0cd19137e2179L
        };

        private static final int[] ORDERS = {
            0, 1, 2, 3, 4, 5, 6, 7, 8, 9, 10, 11, 12, 13, 14, 15,
            14, 10, 4, 8, 9, 15, 13, 6, 1, 12, 0, 2, 11, 7, 5, 3,
            11, 8, 12, 0, 5, 2, 15, 13, 10, 14, 3, 6, 7, 1, 9, 4,
            7, 9, 3, 1, 13, 12, 11, 14, 2, 6, 5, 10, 4, 0, 15, 8,
            9, 0, 5, 7, 2, 4, 10, 15, 14, 1, 11, 12, 6, 8, 3, 13,
            2, 12, 6, 10, 0, 11, 8, 3, 4, 13, 7, 5, 15, 14, 1, 9,
            12, 5, 1, 15, 14, 13, 4, 10, 0, 7, 6, 3, 9, 2, 8, 11,
            13, 11, 7, 14, 12, 1, 3, 9, 5, 0, 15, 4, 8, 6, 2, 10,
            6, 15, 14, 9, 11, 3, 0, 8, 12, 2, 13, 7, 1, 4, 10, 5,
            10, 2, 8, 4, 7, 6, 1, 5, 15, 11, 9, 14, 3, 12, 13, 0
        };

        private final Bytes message = new Bytes(MESSAGE_BYTES);
        private final Bytes made = new Bytes(BLOCK_BYTES);
        private final long[] h = new long[STATE_WORDS];
        private final long[] v = new long[2 * STATE_WORDS];
        private final long[] w = new long[PART_WORDS];

        /** A key fills a whole part before the message; without bytes it takes none. */
        void openWithKey(Bytes key) {
            message.empty();
            if (key.count == 0) {
                return;
            }
            message.putAll(key);
            for (int i = key.count; i < PART_BYTES; i++) {
                message.put(0);
            }
        }

        void openLong(int n) {
            message.empty();
            message.putNumber(n, NUMBER_BYTES);
        }

        void makeShort(int n, int keyLength) {
            made.empty();
            digest(n, keyLength);
            give(n);
        }

        /** The message must have been opened with the same n. */
        void makeLong(int n) {
            made.empty();
            for (int left = n; left > HASH_BYTES; left -= HASH_BYTES / 2) {
                digest(HASH_BYTES, 0);
                give(HASH_BYTES / 2);
                takeStateAsMessage();
            }
            int last = n - made.count;
            digest(last, 0);
            give(last);
        }

        private void takeStateAsMessage() {
            message.empty();
            for (int i = 0; i < STATE_WORDS; i++) {
                message.putNumber(h[i], WORD_BYTES);
            }
        }

        private void give(int n) {
            for (int i = 0; i < STATE_WORDS; i++) {
                made.putNumber(h[i], Math.min(WORD_BYTES, n - WORD_BYTES * i));
            }
        }

        private void digest(int n, int keyLength) {
            for (int i = 0; i < STATE_WORDS; i++) {
                h[i] = START[i];
            }
            h[0] ^= SETTINGS ^ 256 * keyLength ^ n;
            int parts = Math.max(1, (message.count + PART_BYTES - 1) / PART_BYTES);
            for (int part = 0; part < parts; part++) {
                loadPart(part, part == parts - 1);
                for (int step = 0; step < ROUNDS * FOUR_COUNT; step++) {
                    int four = step % FOUR_COUNT;
                    int order = step / FOUR_COUNT % ORDER_COUNT * PART_WORDS + 2 * four;
                    mix(4 * four, w[ORDERS[order]], w[ORDERS[order + 1]]);
                }
                foldPart();
            }
        }

        private void loadPart(int part, boolean isLast) {
            for (int i = 0; i < PART_WORDS; i++) {
                w[i] = message.wordAt(part * PART_BYTES + i * WORD_BYTES);
            }
            for (int i = 0; i < STATE_WORDS; i++) {
                v[i] = h[i];
                v[STATE_WORDS + i] = START[i];
            }
            v[12] ^= Math.min(message.count, (part + 1) * PART_BYTES);
            if (isLast) {
                v[14] = ~v[14];
            }
        }

        private void foldPart() {
            for (int i = 0; i < STATE_WORDS; i++) {
                h[i] ^= v[i] ^ v[STATE_WORDS + i];
            }
        }

        /** MIX of the four words whose places begin at the given one of FOURS. */
        private void mix(int places, long x, long y) {
            int a = FOURS[places];
            int b = FOURS[places + 1];
            int c = FOURS[places + 2];
            int d = FOURS[places + 3];
            v[a] += v[b] + x;
            v[d] = turnRight(v[d] ^ v[a], 32);
            v[c] += v[d];
            v[b] = turnRight(v[b] ^ v[c], 24);
            v[a] += v[b] + y;
            v[d] = turnRight(v[d] ^ v[a], 16);
            v[c] += v[d];
            v[b] = turnRight(v[b] ^ v[c], 63);
        }
    }

    /** JOIN of two blocks, with the rows it works on. */
    private static final class Joiner {
        private static final int STIRRED = 16;
        private static final int PAIRS = 8;

        private final long[] sum = new long[BLOCK_WORDS];
        private final long[] z = new long[BLOCK_WORDS];
        private final long[] v = new long[STIRRED];

        /** Puts JOIN(x, y) into a block, over what it was or, if that is kept, ^ what it was. */
        void join(long[] x, long[] y, long[] into, boolean isKept) {
            for (int k = 0; k < BLOCK_WORDS; k++) {
                sum[k] = x[k] ^ y[k];
                z[k] = sum[k];
            }
            for (int row = 0; row < PAIRS; row++) {
                stir(STIRRED * row, 2);
            }
            for (int column = 0; column < PAIRS; column++) {
                stir(2 * column, STIRRED);
            }
            for (int k = 0; k < BLOCK_WORDS; k++) {
                long was = isKept ? into[k] : 0;
                into[k] = was ^ z[k] ^ sum[k];
            }
        }

        /** A row and a column are both eight pairs of words, only the way between them differs. */
        private void stir(int start, int way) {
            for (int l = 0; l < PAIRS; l++) {
                v[2 * l] = z[start + way * l];
                v[2 * l + 1] = z[start + way * l + 1];
            }
            for (int four = 0; four < FOUR_COUNT; four++) {
                mixHard(4 * four);
            }
            for (int l = 0; l < PAIRS; l++) {
                z[start + way * l] = v[2 * l];
                z[start + way * l + 1] = v[2 * l + 1];
            }
        }

        /** HARD MIX of the four words whose places begin at the given one of FOURS. */
        private void mixHard(int places) {
            int a = FOURS[places];
            int b = FOURS[places + 1];
            int c = FOURS[places + 2];
            int d = FOURS[places + 3];
            v[a] = sumHard(v[a], v[b]);
            v[d] = turnRight(v[d] ^ v[a], 32);
            v[c] = sumHard(v[c], v[d]);
            v[b] = turnRight(v[b] ^ v[c], 24);
            v[a] = sumHard(v[a], v[b]);
            v[d] = turnRight(v[d] ^ v[a], 16);
            v[c] = sumHard(v[c], v[d]);
            v[b] = turnRight(v[b] ^ v[c], 63);
        }

        private static long sumHard(long a, long b) {
            return a + b + 2 * (a & LOWER_HALF) * (b & LOWER_HALF);
        }
    }

    /** The memory of blocks and how far it is filled; all numbers are 0 before the first begin. */
    private static final class Filling {
        private static final int KIND_BY_BLOCKS = 0;
        private static final int KIND_BY_ADDRESSES = 1;
        private static final int KIND_OF_BOTH = 2;

        private final long[][] memory = new long[MOST_BLOCKS][BLOCK_WORDS];
        private final long[] zeros = new long[BLOCK_WORDS];
        private final long[] address = new long[BLOCK_WORDS];
        private final Joiner joiner = new Joiner();
        private int kind;
        private int lanes;
        private int passes;
        private int tagBytes;
        private int laneBlocks;
        private int sliceBlocks;
        private int done;
        /** Where the segment is that is being done. */
        private int pass;
        private int slice;
        private int lane;

        static boolean isPossible(int kind, int lanes, int passes, int memory, int tag) {
            return kind >= KIND_BY_BLOCKS && kind <= KIND_OF_BOTH
                && lanes >= 1 && lanes <= 4
                && passes >= 1 && passes <= 5
                && memory >= 2 * SLICES * lanes && memory <= MOST_BLOCKS
                && tag >= 4 && tag <= 128;
        }

        void restart(int newKind, int newLanes, int newPasses, int newMemory, int newTag) {
            if (!isPossible(newKind, newLanes, newPasses, newMemory, newTag)) {
                return;
            }
            kind = newKind;
            lanes = newLanes;
            passes = newPasses;
            tagBytes = newTag;
            sliceBlocks = newMemory / (SLICES * newLanes);
            laneBlocks = SLICES * sliceBlocks;
            done = 0;
            for (int block = 0; block < MOST_BLOCKS; block++) {
                for (int k = 0; k < BLOCK_WORDS; k++) {
                    memory[block][k] = 0;
                }
            }
        }

        /** The memory asked for goes in, not the blocks that come of it. */
        void putSettings(Bytes message, int askedMemory) {
            message.putNumber(lanes, NUMBER_BYTES);
            message.putNumber(tagBytes, NUMBER_BYTES);
            message.putNumber(askedMemory, NUMBER_BYTES);
            message.putNumber(passes, NUMBER_BYTES);
            message.putNumber(VERSION, NUMBER_BYTES);
            message.putNumber(kind, NUMBER_BYTES);
        }

        boolean isBegun() {
            return lanes > 0;
        }

        int blocks() {
            return lanes * laneBlocks;
        }

        int segments() {
            return passes * SLICES * lanes;
        }

        long wordOf(int block, int k) {
            if (block < 0 || block >= blocks() || k < 0 || k >= BLOCK_WORDS) {
                return 0;
            }
            return blockOf(block)[k];
        }

        void lay(int itsLane, int j, Bytes bytes) {
            long[] block = blockOf(itsLane * laneBlocks + j);
            for (int k = 0; k < BLOCK_WORDS; k++) {
                block[k] = bytes.wordAt(WORD_BYTES * k);
            }
        }

        void putLastBlocks(Bytes message) {
            for (int k = 0; k < BLOCK_WORDS; k++) {
                long together = 0;
                for (int i = 1; i <= lanes; i++) {
                    together ^= wordOf(i * laneBlocks - 1, k);
                }
                message.putNumber(together, WORD_BYTES);
            }
        }

        void doSegment() {
            if (lanes < 1 || done >= segments()) {
                return;
            }
            lane = done % lanes;
            slice = done / lanes % SLICES;
            pass = done / lanes / SLICES;
            boolean byAddress = goesByAddress();
            if (byAddress) {
                openAddress();
                joiner.join(zeros, address, address, false);
                joiner.join(zeros, address, address, false);
            }
            int start = lane * laneBlocks;
            for (int i = isFirstSlice() ? 2 : 0; i < sliceBlocks; i++) {
                int j = slice * sliceBlocks + i;
                long[] before = blockOf(start + (j == 0 ? laneBlocks : j) - 1);
                long numbers = byAddress ? address[i % BLOCK_WORDS] : before[0];
                long[] far = blockOf(farBlock(i, numbers));
                joiner.join(before, far, blockOf(start + j), pass > 0);
            }
            done++;
        }

        private boolean isFirstSlice() {
            return pass == 0 && slice == 0;
        }

        private boolean goesByAddress() {
            return kind == KIND_BY_ADDRESSES || kind == KIND_OF_BOTH && pass == 0 && slice < 2;
        }

        /** The first one (c = 1) serves the whole segment, for a slice has at most 32 blocks. */
        private void openAddress() {
            for (int k = 0; k < BLOCK_WORDS; k++) {
                address[k] = 0;
            }
            address[0] = pass;
            address[1] = lane;
            address[2] = slice;
            address[3] = blocks();
            address[4] = passes;
            address[5] = kind;
            address[6] = 1;
        }

        /** THE FAR BLOCK of place i in the slice; J and K are the halves of the word numbers. */
        private int farBlock(int i, long numbers) {
            int farLane = isFirstSlice() || lanes < 2 ? lane : (int) ((numbers >>> 32) % lanes);
            int finished = pass == 0 ? slice * sliceBlocks : laneBlocks - sliceBlocks;
            long u = finished - (i == 0 ? 1 : 0);
            if (farLane == lane) {
                u = finished + i - 1;
            }
            long j = numbers & LOWER_HALF;
            long x = j * j >>> 32;
            int y = (int) (u - 1 - (u * x >>> 32));
            int first = pass == 0 || slice == SLICES - 1 ? 0 : (slice + 1) * sliceBlocks;
            int place = first + y;
            return farLane * laneBlocks + (place < laneBlocks ? place : place - laneBlocks);
        }

        /** The tested way to a block; a number that no block has gives 0s. */
        private long[] blockOf(int number) {
            return number >= 0 && number < MOST_BLOCKS ? memory[number] : zeros;
        }
    }
}

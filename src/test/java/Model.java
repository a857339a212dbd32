import java.io.ByteArrayOutputStream;
import java.math.BigInteger;
import java.util.Arrays;

/**
 * The document written down a second time, with the Java library, without care for room or speed,
 * and so unlike the class that both are not likely to share a fault.
 */
final class Model {
    private static final String[] ORDERS = (
        "0 1 2 3 4 5 6 7 8 9 10 11 12 13 14 15 / 14 10 4 8 9 15 13 6 1 12 0 2 11 7 5 3 / "
        + "11 8 12 0 5 2 15 13 10 14 3 6 7 1 9 4 / 7 9 3 1 13 12 11 14 2 6 5 10 4 0 15 8 / "
        + "9 0 5 7 2 4 10 15 14 1 11 12 6 8 3 13 / 2 12 6 10 0 11 8 3 4 13 7 5 15 14 1 9 / "
        + "12 5 1 15 14 13 4 10 0 7 6 3 9 2 8 11 / 13 11 7 14 12 1 3 9 5 0 15 4 8 6 2 10 / "
        + "6 15 14 9 11 3 0 8 12 2 13 7 1 4 10 5 / 10 2 8 4 7 6 1 5 15 11 9 14 3 12 13 0").split(" / ");
    private static final int[] PRIMES = {2, 3, 5, 7, 11, 13, 17, 19};
    private static final long[] START = new long[8];
    private static final int[][] ORDER = new int[10][16];

    static {
        for (int i = 0; i < 8; i++) {
            START[i] = BigInteger.valueOf(PRIMES[i]).shiftLeft(128).sqrt().longValue();
        }
        for (int r = 0; r < 10; r++) {
            String[] row = ORDERS[r].split(" ");
            for (int i = 0; i < 16; i++) {
                ORDER[r][i] = Integer.parseInt(row[i]);
            }
        }
    }

    private final byte[][] registers = new byte[8][0];
    private int kind;
    private int p;
    private int t;
    private int n;
    private int q;
    private int done;
    private long[][] blocks = new long[0][];

    int add(int r, int count, long w) {
        if (!is(r) || count < 1 || count > 8) {
            return -2;
        }
        if (registers[r].length + count > 200) {
            return -3;
        }
        registers[r] = join(registers[r], Arrays.copyOf(join(number(w, 4), number(w >> 32, 4)), count));
        return registers[r].length;
    }

    int clear(int r) {
        if (!is(r)) {
            return -2;
        }
        int had = registers[r].length;
        registers[r] = new byte[0];
        return had;
    }

    int size(int r) {
        return is(r) ? registers[r].length : -2;
    }

    int at(int r, int i) {
        if (!is(r)) {
            return -2;
        }
        return i < 0 || i >= registers[r].length ? -1 : Byte.toUnsignedInt(registers[r][i]);
    }

    int hash(int to, int from, int key, int count) {
        if (!is(to) || !is(from) || !is(key) && key != -1 || count < 1 || count > 64) {
            return -2;
        }
        if (bytes(key).length > 64) {
            return -2;
        }
        registers[to] = hashOf(count, bytes(key), registers[from]);
        return count;
    }

    int longHash(int to, int from, int count) {
        if (!is(to) || !is(from) || count < 1 || count > 200) {
            return -2;
        }
        registers[to] = longOf(count, registers[from]);
        return count;
    }

    int begin(int[] sizes, int password, int salt, int secret, int data) {
        if (!fits(sizes) || !is(password) || !is(salt) || bytes(salt).length < 8
            || !is(secret) && secret != -1 || !is(data) && data != -1) {
            return -2;
        }
        kind = sizes[0];
        p = sizes[1];
        t = sizes[2];
        n = sizes[4];
        q = sizes[3] / (4 * p) * 4;
        done = 0;
        byte[] all = join(number(p, 4), number(n, 4), number(sizes[3], 4), number(t, 4), number(19, 4),
            number(kind, 4));
        for (int r : new int[] {password, salt, secret, data}) {
            all = join(all, number(bytes(r).length, 4), bytes(r));
        }
        byte[] h = hashOf(64, new byte[0], all);
        blocks = new long[p * q][128];
        for (int i = 0; i < p; i++) {
            blocks[q * i] = words(longOf(1024, join(h, number(0, 4), number(i, 4))));
            blocks[q * i + 1] = words(longOf(1024, join(h, number(1, 4), number(i, 4))));
        }
        return p * q;
    }

    int fill(int count) {
        if (count < 1 || count > 100) {
            return -2;
        }
        if (p == 0) {
            return -3;
        }
        int did = 0;
        while (did < count && done < 4 * t * p) {
            segment(done / (4 * p), done / p % 4, done % p);
            done++;
            did++;
        }
        return did;
    }

    long word(int block, int k) {
        return block < 0 || block >= blocks.length || k < 0 || k > 127 ? 0 : blocks[block][k];
    }

    int tag(int to) {
        if (!is(to)) {
            return -2;
        }
        if (p == 0 || done < 4 * t * p) {
            return -3;
        }
        long[] last = new long[128];
        for (int i = 1; i <= p; i++) {
            last = xor(last, blocks[q * i - 1]);
        }
        byte[] all = new byte[0];
        for (long w : last) {
            all = join(all, number(w, 4), number(w >> 32, 4));
        }
        registers[to] = longOf(n, all);
        return n;
    }

    int told(int what) {
        int[] told = {kind, p, t, p * q, done, 4 * t * p, n};
        return what < 0 || what > 6 ? -2 : told[what];
    }

    int seal(int to, int[] sizes, int password, int salt) {
        if (!is(to) || begin(sizes, password, salt, -1, -1) == -2) {
            return -2;
        }
        fill(100);
        return tag(to);
    }

    byte[] bytes(int r) {
        return is(r) ? registers[r] : new byte[0];
    }

    private static boolean is(int r) {
        return 0 <= r && r <= 7;
    }

    private static boolean fits(int[] s) {
        return in(s[0], 0, 2) && in(s[1], 1, 4) && in(s[2], 1, 5) && in(s[3], 8 * s[1], 128) && in(s[4], 4, 128);
    }

    private static boolean in(int x, int least, int most) {
        return least <= x && x <= most;
    }

    private void segment(int pass, int slice, int lane) {
        int s = q / 4;
        for (int i = pass == 0 && slice == 0 ? 2 : 0; i < s; i++) {
            int j = slice * s + i;
            long[] before = blocks[q * lane + (j + q - 1) % q];
            long numbers = before[0];
            if (kind == 1 || kind == 2 && pass == 0 && slice < 2) {
                long[] z = new long[128];
                long[] head = {pass, lane, slice, p * q, t, kind, 1 + i / 128};
                System.arraycopy(head, 0, z, 0, head.length);
                numbers = join(new long[128], join(new long[128], z))[i % 128];
            }
            long[] made = join(before, blocks[far(pass, slice, lane, i, numbers)]);
            blocks[q * lane + j] = pass == 0 ? made : xor(made, blocks[q * lane + j]);
        }
    }

    private int far(int pass, int slice, int lane, int i, long numbers) {
        int s = q / 4;
        BigInteger j = BigInteger.valueOf(Integer.toUnsignedLong((int) numbers));
        int farLane = Integer.remainderUnsigned((int) (numbers >> 32), p);
        if (pass == 0 && slice == 0) {
            farLane = lane;
        }
        int ready = pass == 0 ? slice * s : q - s;
        int u = farLane == lane ? ready + i - 1 : i == 0 ? ready - 1 : ready;
        BigInteger x = j.multiply(j).shiftRight(32);
        int y = u - 1 - BigInteger.valueOf(u).multiply(x).shiftRight(32).intValueExact();
        int first = slice == 3 ? 0 : (slice + 1) * s;
        return q * farLane + (pass == 0 ? y : (first + y) % q);
    }

    static long[] join(long[] x, long[] y) {
        long[] z = xor(x, y);
        for (int row = 0; row < 8; row++) {
            int[] places = new int[16];
            for (int i = 0; i < 16; i++) {
                places[i] = 16 * row + i;
            }
            stir(z, places);
        }
        for (int k = 0; k < 8; k++) {
            int[] places = new int[16];
            for (int l = 0; l < 8; l++) {
                places[2 * l] = 16 * l + 2 * k;
                places[2 * l + 1] = 16 * l + 2 * k + 1;
            }
            stir(z, places);
        }
        return xor(z, xor(x, y));
    }

    private static void stir(long[] z, int[] at) {
        hardMix(z, at[0], at[4], at[8], at[12]);
        hardMix(z, at[1], at[5], at[9], at[13]);
        hardMix(z, at[2], at[6], at[10], at[14]);
        hardMix(z, at[3], at[7], at[11], at[15]);
        hardMix(z, at[0], at[5], at[10], at[15]);
        hardMix(z, at[1], at[6], at[11], at[12]);
        hardMix(z, at[2], at[7], at[8], at[13]);
        hardMix(z, at[3], at[4], at[9], at[14]);
    }

    private static void hardMix(long[] z, int a, int b, int c, int d) {
        z[a] += z[b] + product(z[a], z[b]);
        z[d] = Long.rotateRight(z[d] ^ z[a], 32);
        z[c] += z[d] + product(z[c], z[d]);
        z[b] = Long.rotateRight(z[b] ^ z[c], 24);
        z[a] += z[b] + product(z[a], z[b]);
        z[d] = Long.rotateRight(z[d] ^ z[a], 16);
        z[c] += z[d] + product(z[c], z[d]);
        z[b] = Long.rotateRight(z[b] ^ z[c], 63);
    }

    private static long product(long a, long b) {
        return Integer.toUnsignedLong((int) a) * Integer.toUnsignedLong((int) b) * 2;
    }

    static byte[] longOf(int n, byte[] m) {
        byte[] all = join(number(n, 4), m);
        if (n <= 64) {
            return hashOf(n, new byte[0], all);
        }
        byte[] v = hashOf(64, new byte[0], all);
        byte[] made = Arrays.copyOf(v, 32);
        while (n - made.length > 64) {
            v = hashOf(64, new byte[0], v);
            made = join(made, Arrays.copyOf(v, 32));
        }
        return join(made, hashOf(n - made.length, new byte[0], v));
    }

    static byte[] hashOf(int n, byte[] key, byte[] m) {
        byte[] all = key.length == 0 ? m : join(Arrays.copyOf(key, 128), m);
        int parts = all.length == 0 ? 1 : (all.length + 127) / 128;
        byte[] padded = Arrays.copyOf(all, 128 * parts);
        long[] h = START.clone();
        h[0] ^= 16842752L ^ 256L * key.length ^ n;
        for (int part = 1; part <= parts; part++) {
            long[] w = words(Arrays.copyOfRange(padded, 128 * part - 128, 128 * part));
            long[] v = Arrays.copyOf(h, 16);
            System.arraycopy(START, 0, v, 8, 8);
            v[12] ^= part == parts ? all.length : 128 * part;
            v[14] ^= part == parts ? -1L : 0L;
            for (int r = 0; r < 12; r++) {
                round(v, w, ORDER[r % 10]);
            }
            for (int i = 0; i < 8; i++) {
                h[i] ^= v[i] ^ v[i + 8];
            }
        }
        byte[] made = new byte[0];
        for (long x : h) {
            made = join(made, number(x, 4), number(x >> 32, 4));
        }
        return Arrays.copyOf(made, n);
    }

    private static void round(long[] v, long[] w, int[] o) {
        mix(v, new int[] {0, 4, 8, 12}, w[o[0]], w[o[1]]);
        mix(v, new int[] {1, 5, 9, 13}, w[o[2]], w[o[3]]);
        mix(v, new int[] {2, 6, 10, 14}, w[o[4]], w[o[5]]);
        mix(v, new int[] {3, 7, 11, 15}, w[o[6]], w[o[7]]);
        mix(v, new int[] {0, 5, 10, 15}, w[o[8]], w[o[9]]);
        mix(v, new int[] {1, 6, 11, 12}, w[o[10]], w[o[11]]);
        mix(v, new int[] {2, 7, 8, 13}, w[o[12]], w[o[13]]);
        mix(v, new int[] {3, 4, 9, 14}, w[o[14]], w[o[15]]);
    }

    private static void mix(long[] v, int[] at, long x, long y) {
        long a = v[at[0]];
        long b = v[at[1]];
        long c = v[at[2]];
        long d = v[at[3]];
        a += b + x;
        d = Long.rotateRight(d ^ a, 32);
        c += d;
        b = Long.rotateRight(b ^ c, 24);
        a += b + y;
        d = Long.rotateRight(d ^ a, 16);
        c += d;
        b = Long.rotateRight(b ^ c, 63);
        v[at[0]] = a;
        v[at[1]] = b;
        v[at[2]] = c;
        v[at[3]] = d;
    }

    static long[] xor(long[] x, long[] y) {
        long[] z = new long[x.length];
        for (int k = 0; k < z.length; k++) {
            z[k] = x[k] ^ y[k];
        }
        return z;
    }

    private static long[] words(byte[] bytes) {
        long[] words = new long[bytes.length / 8];
        java.nio.ByteBuffer.wrap(bytes).order(java.nio.ByteOrder.LITTLE_ENDIAN).asLongBuffer().get(words);
        return words;
    }

    private static byte[] number(long v, int n) {
        byte[] bytes = new byte[n];
        for (int i = 0; i < n; i++) {
            bytes[i] = (byte) (v >> 8 * i);
        }
        return bytes;
    }

    private static byte[] join(byte[]... rows) {
        ByteArrayOutputStream all = new ByteArrayOutputStream();
        for (byte[] row : rows) {
            all.write(row, 0, row.length);
        }
        return all.toByteArray();
    }
}

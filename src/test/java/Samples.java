import java.util.Arrays;

/** Objects of SlowSeal that are ready for a test, and what is in them. */
final class Samples {
    /** Numbers that no register has; NONE is the first of them. */
    static final int[] NO_REGISTERS = {
        SlowSeal.NONE, 8, SlowSeal.BAD, SlowSeal.REFUSED, 9, 16, 200, 256, Integer.MIN_VALUE, Integer.MAX_VALUE
    };
    private static final int CALLS_FOR_WORDS = 490;

    private Samples() {
    }

    /** Each register has eight bytes of its own. */
    static SlowSeal ready() {
        SlowSeal x = new SlowSeal();
        for (int r = 0; r < 8; r++) {
            x.add(r, 8, wordFor(r));
        }
        return x;
    }

    static Model readyModel() {
        Model model = new Model();
        for (int r = 0; r < 8; r++) {
            model.add(r, 8, wordFor(r));
        }
        return model;
    }

    static long wordFor(int r) {
        return 0x0123456789abcdefL * (r + 1);
    }

    /** With a filling of kind, lanes, passes, memory and tag, of which some segments are done. */
    static SlowSeal filled(int[] sizes, int segments) {
        SlowSeal x = ready();
        beginOf(x, sizes);
        if (segments > 0) {
            x.fill(segments);
        }
        return x;
    }

    static Model filledModel(int[] sizes, int segments) {
        Model model = readyModel();
        model.begin(sizes, 0, 1, 2, 3);
        if (segments > 0) {
            model.fill(segments);
        }
        return model;
    }

    static int beginOf(SlowSeal x, int[] s) {
        return x.begin(s[0], s[1], s[2], s[3], s[4], 0, 1, 2, 3);
    }

    /** All words of a filling, looked at in many equal objects, for one has 512 calls alone. */
    static long[][] memoryOf(int[] sizes, int segments) {
        int blocks = sizes[3] / (4 * sizes[1]) * 4 * sizes[1];
        long[][] memory = new long[blocks][128];
        SlowSeal x = null;
        int calls = CALLS_FOR_WORDS;
        for (int block = 0; block < blocks; block++) {
            for (int k = 0; k < 128; k++) {
                if (calls == CALLS_FOR_WORDS) {
                    x = filled(sizes, segments);
                    calls = 0;
                }
                memory[block][k] = x.word(block, k);
                calls++;
            }
        }
        return memory;
    }

    /** Puts bytes into a register in the place of those it has, in few calls: an object has 512. */
    static void put(SlowSeal seal, int r, byte[] bytes) {
        seal.clear(r);
        for (int start = 0; start < bytes.length; start += 8) {
            int n = Math.min(8, bytes.length - start);
            long w = 0;
            for (int i = n - 1; i >= 0; i--) {
                w = w << 8 | bytes[start + i] & 255;
            }
            seal.add(r, n, w);
        }
    }

    static byte[] bytesIn(SlowSeal seal, int r) {
        byte[] bytes = new byte[Math.max(seal.size(r), 0)];
        for (int i = 0; i < bytes.length; i++) {
            bytes[i] = (byte) seal.at(r, i);
        }
        return bytes;
    }

    /** Bytes that go up by one from a first one. */
    static byte[] rising(int first, int n) {
        byte[] bytes = new byte[n];
        for (int i = 0; i < n; i++) {
            bytes[i] = (byte) (first + i);
        }
        return bytes;
    }

    static int[] changed(int[] numbers, int place, int value) {
        int[] others = Arrays.copyOf(numbers, numbers.length);
        others[place] = value;
        return others;
    }

    static String hex(byte[] bytes) {
        StringBuilder text = new StringBuilder();
        for (byte b : bytes) {
            text.append(String.format("%02x", b & 255));
        }
        return text.toString();
    }

    static byte[] unhex(String text) {
        byte[] bytes = new byte[text.length() / 2];
        for (int i = 0; i < bytes.length; i++) {
            bytes[i] = (byte) Integer.parseInt(text.substring(2 * i, 2 * i + 2), 16);
        }
        return bytes;
    }
}

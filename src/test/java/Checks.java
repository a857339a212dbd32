import java.util.Arrays;

/** Counts answers that are not the ones due; what the tests share. */
final class Checks {
    private int asked = 0;
    private int wrong = 0;

    void due(String call, long got, long want) {
        asked++;
        if (got != want) {
            wrong++;
            System.out.println(call + " answered " + got + ", due is " + want);
        }
    }

    void dueBytes(String call, SlowSeal seal, int r, byte[] want) {
        asked++;
        byte[] got = bytesIn(seal, r);
        if (!Arrays.equals(got, want)) {
            wrong++;
            System.out.println(call + " gave " + hex(got) + ", due is " + hex(want));
        }
    }

    void dueHex(String call, SlowSeal seal, int r, String want) {
        dueBytes(call, seal, r, unhex(want));
    }

    void end(String name) {
        System.out.println(name + ": " + asked + " answers, " + wrong + " not as due");
        if (wrong != 0 || asked == 0) {
            System.exit(1);
        }
    }

    /** Puts bytes into a register in the place of those it has, in few calls: an object has 512. */
    static void put(SlowSeal seal, int r, byte[] bytes) {
        seal.clear(r);
        for (int start = 0; start < bytes.length; start += 8) {
            int n = Math.min(8, bytes.length - start);
            long w = 0;
            for (int i = n - 1; i >= 0; i--) {
                w = w << 8 | bytes[start + i] & 255;
            }
            seal.add(r, n, w);
        }
    }

    static byte[] bytesIn(SlowSeal seal, int r) {
        byte[] bytes = new byte[Math.max(seal.size(r), 0)];
        for (int i = 0; i < bytes.length; i++) {
            bytes[i] = (byte) seal.at(r, i);
        }
        return bytes;
    }

    /** Bytes that go up by one from a first one. */
    static byte[] rising(int first, int n) {
        byte[] bytes = new byte[n];
        for (int i = 0; i < n; i++) {
            bytes[i] = (byte) (first + i);
        }
        return bytes;
    }

    static String hex(byte[] bytes) {
        StringBuilder text = new StringBuilder();
        for (byte b : bytes) {
            text.append(String.format("%02x", b & 255));
        }
        return text.toString();
    }

    static byte[] unhex(String text) {
        byte[] bytes = new byte[text.length() / 2];
        for (int i = 0; i < bytes.length; i++) {
            bytes[i] = (byte) Integer.parseInt(text.substring(2 * i, 2 * i + 2), 16);
        }
        return bytes;
    }
}

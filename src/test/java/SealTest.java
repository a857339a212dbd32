/** Promise 13, seal, and what begin, fill and tag (8, 9, 11) give together. */
public final class SealTest {
    private static final Checks CHECKS = new Checks();

    public static void main(String[] args) {
        knownTags();
        sealIsTheStepsTogether();
        everyRegisterAsItsOwnTarget();
        wrongCallsLeaveAll();
        CHECKS.end("SealTest");
    }

    /** From the C library libargon2, which fills as the document says. */
    private static void knownTags() {
        vector(new int[] {0, 1, 1, 8, 4}, new int[] {0, 8, 0, 0},
            "a6a25d52");
        vector(new int[] {1, 1, 1, 8, 4}, new int[] {1, 8, 0, 0},
            "bfa94dba");
        vector(new int[] {2, 1, 1, 8, 4}, new int[] {8, 9, 0, 0},
            "0160ab2d");
        vector(new int[] {0, 4, 5, 128, 128}, new int[] {200, 200, 200, 200},
            "a0a204c1cd578af24738831e9ec345084134c0dd11277fa7a7944c4cbf4582eecc89aca97e0cab5a"
            + "f35fca0a3346da80df8df82d2d9b42e20d95d21a0fa50c8e3af527844c85d621a4c9a16b3bc5ec67"
            + "2b2694768a557dec60dffa3037cb2c847650c73dea8fdc414358c23c54232a6990f8c3186ea02bed"
            + "33440fe623c017a4");
        vector(new int[] {1, 4, 5, 128, 128}, new int[] {200, 200, 200, 200},
            "73cd850ea6b79b1639c82b8ea5e37048a4b0f7db8bf79514623f0f64b56dda18fc3a5d02e82de529"
            + "1ed20319b20475692fc26f132ac1752efd20f1d441a6cb0235fadefcdbd9515a407c0bdc7d64e036"
            + "a3c582e80a3385cc10745c84f8143246b06eb4cb8ab1158505010545b616be6a60d2ea0569f88df6"
            + "75b8f65aa485d60a");
        vector(new int[] {2, 4, 5, 128, 128}, new int[] {200, 200, 200, 200},
            "10111787284e5bee7811d33a55c08dff69fe406863f9e1ce38c412c019d30af1e50b6f4b8e6407c8"
            + "d73b4ac855de30712dd2106e0b2cf19f3ddcb08af1900059874b05a1af5cd1132c99a5626def947a"
            + "32d8a2ca79c0e66038b68689f74e7279027f6de710b429066b8c0514625f7d0194dd01e4c297d10d"
            + "05d5ec468095e54d");
        vector(new int[] {0, 2, 3, 37, 65}, new int[] {10, 16, 0, 5},
            "34dc63796103ea30dbff09ebf85bc004927011f959a1fd07ab08e0123b0265f0bd5b35f752d5d5b5"
            + "a43aa6d7c0a3bccfed7f42c80c209a8d3b51608af07787f4ca");
        vector(new int[] {1, 3, 2, 100, 64}, new int[] {10, 16, 5, 0},
            "161eaf780a661df64d546897ac383dfeb2c997403ec84817d9c3d08c42c979c9a3cb97cdb88198bf"
            + "4209b35708614c40dc49f14f46043257c55b1825a74eaadd");
        vector(new int[] {2, 3, 4, 95, 33}, new int[] {0, 16, 1, 1},
            "41283e80afc1bbd9da3ab0a9ae9169cd4586e26b92e5ee8ade70fce79c028a11c9");
        vector(new int[] {2, 1, 5, 127, 32}, new int[] {5, 8, 0, 0},
            "dc582679a269357c2b4691f75fc370b3111ea4edbd25c152e5f0042f2b0e6e4b");
        vector(new int[] {1, 1, 3, 128, 5}, new int[] {3, 8, 8, 0},
            "39a04277cf");
        vector(new int[] {2, 4, 1, 32, 24}, new int[] {3, 8, 8, 0},
            "fa84fd11427c43b85e39eadaaa7d11ee16a7d6110bfa397e");
        vector(new int[] {0, 3, 1, 24, 16}, new int[] {3, 8, 8, 0},
            "1b8a23d7ac4cf89fc5e46b6643fe0c0b");
        vector(new int[] {0, 2, 2, 16, 16}, new int[] {3, 8, 8, 0},
            "7b7465a2f5cc48a089c3c3b2d99e4e6b");
        vector(new int[] {1, 4, 2, 47, 16}, new int[] {3, 8, 8, 0},
            "259572d01d30374db3990674fae43399");
    }

    private static void vector(int[] s, int[] bytes, String want) {
        SlowSeal x = new SlowSeal();
        int[] firsts = {1, 50, 100, 150};
        for (int i = 0; i < 4; i++) {
            Checks.put(x, 2 * i, Checks.rising(firsts[i], bytes[i]));
        }
        String call = "kind " + s[0] + " of " + s[1] + " lanes, " + s[2] + " passes, " + s[3];
        int secret = bytes[2] == 0 ? SlowSeal.NONE : 4;
        CHECKS.due(call, x.begin(s[0], s[1], s[2], s[3], s[4], 0, 2, secret, 6),
            s[3] / (4 * s[1]) * 4 * s[1]);
        CHECKS.due(call, x.fill(100), 4 * s[1] * s[2]);
        CHECKS.due(call, x.tag(7), s[4]);
        CHECKS.dueHex(call, x, 7, want);
        if (bytes[2] == 0 && bytes[3] == 0) {
            CHECKS.due(call + " sealed", x.seal(5, s[0], s[1], s[2], s[3], s[4], 0, 2), s[4]);
            CHECKS.dueHex(call + " sealed", x, 5, want);
        }
    }

    private static void sealIsTheStepsTogether() {
        for (int kind = 0; kind < 3; kind++) {
            for (int lanes = 1; lanes < 5; lanes++) {
                for (int passes = 1; passes < 6; passes++) {
                    sameAsSteps(kind, lanes, passes, 8 * lanes + 7 * passes);
                    sameAsSteps(kind, lanes, passes, 128);
                }
            }
        }
    }

    private static void sameAsSteps(int kind, int lanes, int passes, int memory) {
        String call = "seal(1, " + kind + ", " + lanes + ", " + passes + ", " + memory + ", ..)";
        SlowSeal x = sealReady();
        Model model = new Model();
        for (int r = 0; r < 8; r++) {
            model.add(r, 8, 1000 + r);
        }
        int[] sizes = {kind, lanes, passes, memory, 4 + memory % 125};
        CHECKS.due(call, x.seal(1, kind, lanes, passes, memory, sizes[4], 2, 3),
            model.seal(1, sizes, 2, 3));
        CHECKS.dueBytes(call, x, 1, model.bytes(1));
        for (int what = 0; what < 7; what++) {
            CHECKS.due(call + ", then told(" + what + ")", x.told(what), model.told(what));
        }
        for (int block = 0; block < 128; block++) {
            int k = block * 37 % 128;
            CHECKS.due(call + ", then word(" + block + ", " + k + ")", x.word(block, k),
                model.word(block, k));
        }
        CHECKS.due(call + ", then fill(1)", x.fill(1), 0);
        CHECKS.due(call + ", then tag(6)", x.tag(6), sizes[4]);
        CHECKS.dueBytes(call + ", then tag(6)", x, 6, model.bytes(1));
    }

    private static void everyRegisterAsItsOwnTarget() {
        for (int r = 0; r < 8; r++) {
            SlowSeal x = sealReady();
            Model model = new Model();
            model.add(r, 8, 1000 + r);
            CHECKS.due("seal onto its own " + r, x.seal(r, 1, 1, 1, 8, 99, r, r), 99);
            model.seal(r, new int[] {1, 1, 1, 8, 99}, r, r);
            CHECKS.dueBytes("seal onto its own " + r, x, r, model.bytes(r));
        }
    }

    private static void wrongCallsLeaveAll() {
        SlowSeal x = sealReady();
        x.seal(0, 2, 1, 1, 8, 4, 2, 3);
        x.clear(7);
        x.add(7, 7, 1);
        long was = x.word(7, 127);
        String seal = Checks.hex(Checks.bytesIn(x, 0));
        int[][] wrong = {
            {-1, 0, 1, 1, 8, 4, 2, 3}, {8, 0, 1, 1, 8, 4, 2, 3}, {-2, 0, 1, 1, 8, 4, 2, 3},
            {0, -1, 1, 1, 8, 4, 2, 3}, {0, 3, 1, 1, 8, 4, 2, 3}, {0, 0, 0, 1, 8, 4, 2, 3},
            {0, 0, -1, 1, 8, 4, 2, 3}, {0, 0, 5, 1, 128, 4, 2, 3}, {0, 0, 1, 0, 8, 4, 2, 3},
            {0, 0, 1, 6, 8, 4, 2, 3}, {0, 0, 1, 1, 7, 4, 2, 3}, {0, 0, 4, 1, 31, 4, 2, 3},
            {0, 0, 1, 1, 129, 4, 2, 3}, {0, 0, 1, 1, 8, 3, 2, 3}, {0, 0, 1, 1, 8, 129, 2, 3},
            {0, 0, 1, 1, 8, 4, -1, 3}, {0, 0, 1, 1, 8, 4, 8, 3}, {0, 0, 1, 1, 8, 4, 2, -1},
            {0, 0, 1, 1, 8, 4, 2, 8}, {0, 0, 1, 1, 8, 4, 2, 7}
        };
        for (int[] s : wrong) {
            CHECKS.due("seal of " + java.util.Arrays.toString(s),
                x.seal(s[0], s[1], s[2], s[3], s[4], s[5], s[6], s[7]), SlowSeal.BAD);
            CHECKS.due("told(0) after BAD", x.told(0), 2);
            CHECKS.due("told(4) after BAD", x.told(4), 4);
            CHECKS.due("word after BAD", x.word(7, 127), was);
            CHECKS.dueHex("register 0 after BAD", x, 0, seal);
        }
    }

    private static SlowSeal sealReady() {
        SlowSeal x = new SlowSeal();
        for (int r = 0; r < 8; r++) {
            x.add(r, 8, 1000 + r);
        }
        return x;
    }
}

import java.util.Arrays;

/** Promises 8 to 12: begin, fill, word, tag, told. */
public final class FillingTest {
    private static final Checks CHECKS = new Checks();

    public static void main(String[] args) {
        everyMemory();
        firstBlocks();
        inputsAtTheirEdges();
        segmentBySegment();
        fillInParts();
        fillWrongly();
        wordsThatAreNotThere();
        tagOnlyAtTheEnd();
        tagTwiceAndOverInputs();
        toldOfNothing();
        beginAgain();
        wrongBegins();
        inputsAreTakenAtBegin();
        CHECKS.end("FillingTest");
    }

    private static void everyMemory() {
        for (int lanes = 1; lanes <= 4; lanes++) {
            SlowSeal x = ready();
            for (int memory = 8 * lanes; memory <= 128; memory++) {
                int blocks = memory / (4 * lanes) * 4 * lanes;
                String call = "begin of " + lanes + " lanes, memory " + memory;
                CHECKS.due(call, x.begin(0, lanes, 1, memory, 4, 0, 1, -1, -1), blocks);
                CHECKS.due(call + ", told(3)", x.told(3), blocks);
            }
            CHECKS.due("memory too small", x.begin(0, lanes, 1, 8 * lanes - 1, 4, 0, 1, -1, -1),
                SlowSeal.BAD);
        }
    }

    private static void firstBlocks() {
        int[][] sizes = {{0, 1, 1, 8, 4}, {1, 2, 3, 37, 65}, {2, 4, 5, 128, 128}, {0, 3, 2, 100, 64}};
        for (int[] s : sizes) {
            SlowSeal x = ready();
            Model model = readyModel();
            x.begin(s[0], s[1], s[2], s[3], s[4], 0, 1, 2, 3);
            model.begin(s, 0, 1, 2, 3);
            int laneBlocks = s[3] / (4 * s[1]) * 4;
            sameBlock("begin of " + Arrays.toString(s), x, model, 0);
            sameBlock("begin of " + Arrays.toString(s), x, model, (s[1] - 1) * laneBlocks + 1);
            for (int block = 0; block < s[1] * laneBlocks; block++) {
                boolean isFirst = block % laneBlocks < 2;
                CHECKS.due("word(" + block + ", 0) != 0", x.word(block, 0) != 0 ? 1 : 0, isFirst ? 1 : 0);
            }
        }
    }

    /** Each register, and NONE, as secret and data; inputs without bytes and full ones. */
    private static void inputsAtTheirEdges() {
        for (int secret = -1; secret < 8; secret++) {
            for (int data = -1; data < 8; data++) {
                SlowSeal x = ready();
                Model model = readyModel();
                int password = (secret + data + 8) % 8;
                String call = "begin with secret " + secret + ", data " + data;
                CHECKS.due(call, x.begin(2, 1, 1, 8, 32, password, 1, secret, data), 8);
                model.begin(new int[] {2, 1, 1, 8, 32}, password, 1, secret, data);
                CHECKS.due(call, x.word(0, 0), model.word(0, 0));
                CHECKS.due(call, x.word(1, 127), model.word(1, 127));
            }
        }
        SlowSeal x = new SlowSeal();
        x.add(7, 8, 5);
        CHECKS.due("without bytes", x.begin(1, 1, 1, 8, 4, 0, 7, 0, 0), 8);
        long word = x.word(0, 0);
        x.begin(1, 1, 1, 8, 4, 0, 7, SlowSeal.NONE, SlowSeal.NONE);
        CHECKS.due("NONE is like no bytes", x.word(0, 0), word);
    }

    private static void segmentBySegment() {
        int[][] sizes = {
            {0, 1, 2, 8, 4}, {1, 1, 2, 9, 4}, {2, 1, 3, 128, 4}, {0, 2, 3, 37, 20}, {1, 2, 2, 16, 20},
            {2, 2, 2, 64, 20}, {0, 3, 5, 24, 99}, {1, 3, 2, 77, 99}, {2, 3, 2, 128, 99},
            {0, 4, 2, 32, 128}, {1, 4, 3, 128, 128}, {2, 4, 2, 50, 128}
        };
        for (int[] s : sizes) {
            Model model = readyModel();
            model.begin(s, 0, 1, 2, -1);
            int segments = 4 * s[1] * s[2];
            for (int done = 1; done <= segments; done++) {
                model.fill(1);
                oneMoreSegment(s, done, model);
            }
        }
    }

    /** On an object of its own, for looking at the words of all segments takes over 512 calls. */
    private static void oneMoreSegment(int[] s, int done, Model model) {
        String call = "segment " + done + " of " + Arrays.toString(s);
        SlowSeal x = ready();
        x.begin(s[0], s[1], s[2], s[3], s[4], 0, 1, 2, SlowSeal.NONE);
        if (done > 1) {
            CHECKS.due("those before " + call, x.fill(done - 1), done - 1);
        }
        CHECKS.due(call, x.fill(1), 1);
        CHECKS.due(call + ", told(4)", x.told(4), done);
        sameWords(call, x, model);
        sameBlock(call, x, model, done * 5 % x.told(3));
        if (done == x.told(5)) {
            CHECKS.due("behind the last segment", x.fill(1), 0);
            sameWords("behind the last segment", x, model);
        }
    }

    private static void fillInParts() {
        for (int n = 1; n <= 100; n++) {
            SlowSeal x = ready();
            Model model = readyModel();
            x.begin(2, 4, 5, 32, 32, 0, 1, -1, -1);
            model.begin(new int[] {2, 4, 5, 32, 32}, 0, 1, -1, -1);
            for (int left = 80; left > 0; left -= n) {
                CHECKS.due("fill(" + n + ")", x.fill(n), Math.min(n, left));
                CHECKS.due("then told(4)", x.told(4), 80 - left + Math.min(n, left));
            }
            CHECKS.due("fill(" + n + ") of none", x.fill(n), 0);
            model.fill(100);
            model.tag(7);
            CHECKS.due("tag after fill(" + n + ")s", x.tag(7), 32);
            CHECKS.dueBytes("tag after fill(" + n + ")s", x, 7, model.bytes(7));
        }
    }

    private static void fillWrongly() {
        int[] noCounts = {0, -1, 101, Integer.MIN_VALUE, Integer.MAX_VALUE};
        SlowSeal x = ready();
        for (int n : noCounts) {
            CHECKS.due("fill(" + n + ") of nothing", x.fill(n), SlowSeal.BAD);
        }
        CHECKS.due("fill(1) of nothing", x.fill(1), SlowSeal.REFUSED);
        CHECKS.due("fill(100) of nothing", x.fill(100), SlowSeal.REFUSED);
        CHECKS.due("begin that is BAD", x.begin(3, 1, 1, 8, 4, 0, 1, -1, -1), SlowSeal.BAD);
        CHECKS.due("fill(1) after that", x.fill(1), SlowSeal.REFUSED);
        x.begin(0, 1, 1, 8, 4, 0, 1, -1, -1);
        for (int n : noCounts) {
            CHECKS.due("fill(" + n + ")", x.fill(n), SlowSeal.BAD);
        }
        CHECKS.due("told(4) after BAD", x.told(4), 0);
        CHECKS.due("word(2, 0) after BAD", x.word(2, 0), 0);
        CHECKS.due("fill(100)", x.fill(100), 4);
        CHECKS.due("fill(101) when all is done", x.fill(101), SlowSeal.BAD);
    }

    private static void wordsThatAreNotThere() {
        SlowSeal x = ready();
        x.seal(7, 0, 4, 1, 128, 4, 0, 1);
        CHECKS.due("word(127, 127) != 0", x.word(127, 127) != 0 ? 1 : 0, 1);
        x.seal(7, 0, 1, 1, 11, 4, 0, 1);
        CHECKS.due("word(7, 127) != 0", x.word(7, 127) != 0 ? 1 : 0, 1);
        int[] noPlaces = {-1, 128, 129, Integer.MIN_VALUE, Integer.MAX_VALUE};
        for (int place : noPlaces) {
            CHECKS.due("word(" + place + ", 0)", x.word(place, 0), 0);
            CHECKS.due("word(0, " + place + ")", x.word(0, place), 0);
            CHECKS.due("word(" + place + ", " + place + ")", x.word(place, place), 0);
        }
        for (int block = 8; block < 128; block++) {
            CHECKS.due("word(" + block + ", 0) of 8 blocks", x.word(block, 0), 0);
        }
    }

    private static void tagOnlyAtTheEnd() {
        SlowSeal x = ready();
        CHECKS.due("tag(0) of nothing", x.tag(0), SlowSeal.REFUSED);
        CHECKS.due("tag(8) of nothing", x.tag(8), SlowSeal.BAD);
        x.begin(1, 2, 2, 16, 128, 0, 1, -1, -1);
        for (int done = 0; done < 16; done++) {
            CHECKS.due("tag(0) after " + done + " segments", x.tag(0), SlowSeal.REFUSED);
            CHECKS.due("tag(-1) after " + done + " segments", x.tag(-1), SlowSeal.BAD);
            CHECKS.due("register 0 after REFUSED", x.size(0), 8);
            x.fill(1);
        }
        int[] noRegisters = {-1, 8, -2, Integer.MIN_VALUE, Integer.MAX_VALUE};
        for (int r : noRegisters) {
            CHECKS.due("tag(" + r + ")", x.tag(r), SlowSeal.BAD);
        }
        CHECKS.due("tag(0)", x.tag(0), 128);
        CHECKS.due("its size", x.size(0), 128);
    }

    private static void tagTwiceAndOverInputs() {
        for (int n = 4; n <= 128; n++) {
            SlowSeal x = ready();
            Model model = readyModel();
            x.begin(0, 1, 1, 8, n, 0, 1, 2, 3);
            model.begin(new int[] {0, 1, 1, 8, n}, 0, 1, 2, 3);
            x.fill(4);
            model.fill(4);
            CHECKS.due("tag of " + n, x.tag(0), n);
            model.tag(0);
            CHECKS.dueBytes("tag of " + n, x, 0, model.bytes(0));
            CHECKS.due("tag of " + n + " again", x.tag(1), n);
            CHECKS.dueBytes("tag of " + n + " again", x, 1, model.bytes(0));
            CHECKS.due("told(6)", x.told(6), n);
        }
    }

    private static void toldOfNothing() {
        int[] noQuestions = {-1, 7, 8, Integer.MIN_VALUE, Integer.MAX_VALUE};
        SlowSeal x = ready();
        for (int what = 0; what < 7; what++) {
            CHECKS.due("told(" + what + ") of nothing", x.told(what), 0);
        }
        for (int what : noQuestions) {
            CHECKS.due("told(" + what + ") of nothing", x.told(what), SlowSeal.BAD);
        }
        x.begin(2, 3, 5, 127, 77, 0, 1, -1, -1);
        x.fill(31);
        int[] due = {2, 3, 5, 120, 31, 60, 77};
        for (int what = 0; what < 7; what++) {
            CHECKS.due("told(" + what + ")", x.told(what), due[what]);
        }
        for (int what : noQuestions) {
            CHECKS.due("told(" + what + ")", x.told(what), SlowSeal.BAD);
        }
    }

    private static void beginAgain() {
        SlowSeal x = ready();
        Model model = readyModel();
        x.seal(7, 0, 4, 2, 128, 4, 0, 1);
        x.begin(1, 3, 1, 50, 9, 0, 1, -1, -1);
        model.begin(new int[] {1, 3, 1, 50, 9}, 0, 1, -1, -1);
        sameWords("begin after another", x, model);
        sameBlock("begin after another", x, model, 47);
        for (int block = 0; block < 48; block++) {
            sameWord("begin after another", x, model, block, 0);
            sameWord("begin after another", x, model, block, 127);
        }
        int[] due = {1, 3, 1, 48, 0, 12, 9};
        for (int what = 0; what < 7; what++) {
            CHECKS.due("told(" + what + ") of the new one", x.told(what), due[what]);
        }
        CHECKS.due("tag of the new one", x.tag(0), SlowSeal.REFUSED);
    }

    private static void wrongBegins() {
        int[][] wrong = {
            {-1, 1, 1, 8, 4, 0, 1, 2, 3}, {3, 1, 1, 8, 4, 0, 1, 2, 3}, {0, 0, 1, 8, 4, 0, 1, 2, 3},
            {0, -1, 1, 8, 4, 0, 1, 2, 3}, {0, 5, 1, 128, 4, 0, 1, 2, 3}, {0, 1, 0, 8, 4, 0, 1, 2, 3},
            {0, 1, 6, 8, 4, 0, 1, 2, 3}, {0, 1, 1, 7, 4, 0, 1, 2, 3}, {0, 2, 1, 15, 4, 0, 1, 2, 3},
            {0, 1, 1, 129, 4, 0, 1, 2, 3}, {0, 1, 1, -8, 4, 0, 1, 2, 3}, {0, 1, 1, 8, 3, 0, 1, 2, 3},
            {0, 1, 1, 8, 129, 0, 1, 2, 3}, {0, 1, 1, 8, 4, -1, 1, 2, 3}, {0, 1, 1, 8, 4, 8, 1, 2, 3},
            {0, 1, 1, 8, 4, 0, -1, 2, 3}, {0, 1, 1, 8, 4, 0, 8, 2, 3}, {0, 1, 1, 8, 4, 0, 1, -2, 3},
            {0, 1, 1, 8, 4, 0, 1, 8, 3}, {0, 1, 1, 8, 4, 0, 1, 2, -2}, {0, 1, 1, 8, 4, 0, 1, 2, 8},
            {0, 1, 1, 8, 4, 0, 6, 2, 3}, {0, 1, 1, 8, 4, 0, 5, 2, 3},
            {0, Integer.MIN_VALUE, 1, 8, 4, 0, 1, 2, 3}, {0, Integer.MAX_VALUE, 1, 8, 4, 0, 1, 2, 3}
        };
        SlowSeal x = ready();
        x.clear(5);
        x.clear(6);
        x.add(6, 7, 1);
        x.begin(2, 2, 2, 16, 40, 0, 1, -1, -1);
        x.fill(5);
        long word = x.word(2, 2);
        for (int[] b : wrong) {
            CHECKS.due("begin of " + Arrays.toString(b),
                x.begin(b[0], b[1], b[2], b[3], b[4], b[5], b[6], b[7], b[8]), SlowSeal.BAD);
            CHECKS.due("told(0) after BAD", x.told(0), 2);
            CHECKS.due("told(4) after BAD", x.told(4), 5);
            CHECKS.due("told(6) after BAD", x.told(6), 40);
            CHECKS.due("word after BAD", x.word(2, 2), word);
        }
        x.add(6, 1, 0);
        CHECKS.due("a salt of 8 bytes", x.begin(0, 1, 1, 8, 4, 0, 6, 2, 3), 8);
    }

    private static void inputsAreTakenAtBegin() {
        SlowSeal x = ready();
        Model model = readyModel();
        x.begin(2, 1, 2, 16, 64, 0, 1, 2, 3);
        model.begin(new int[] {2, 1, 2, 16, 64}, 0, 1, 2, 3);
        for (int r = 0; r < 4; r++) {
            x.clear(r);
        }
        x.hash(4, 5, 6, 64);
        x.fill(3);
        x.longHash(5, 4, 200);
        x.fill(5);
        model.fill(8);
        model.tag(7);
        CHECKS.due("tag", x.tag(7), 64);
        CHECKS.dueBytes("tag after other calls", x, 7, model.bytes(7));
    }

    /** One word of each block: a block that was joined otherwise differs in all of them. */
    private static void sameWords(String call, SlowSeal x, Model model) {
        for (int block = 0; block < 128; block++) {
            sameWord(call, x, model, block, block * 37 % 128);
        }
    }

    private static void sameBlock(String call, SlowSeal x, Model model, int block) {
        for (int k = 0; k < 128; k++) {
            sameWord(call, x, model, block, k);
        }
    }

    private static void sameWord(String call, SlowSeal x, Model model, int block, int k) {
        CHECKS.due(call + ", word(" + block + ", " + k + ")", x.word(block, k), model.word(block, k));
    }

    private static SlowSeal ready() {
        SlowSeal x = new SlowSeal();
        for (int r = 0; r < 8; r++) {
            x.add(r, 8, 0x0123456789abcdefL * (r + 1));
        }
        return x;
    }

    private static Model readyModel() {
        Model model = new Model();
        for (int r = 0; r < 8; r++) {
            model.add(r, 8, 0x0123456789abcdefL * (r + 1));
        }
        return model;
    }
}

import java.util.Random;

/** Runs of up to 512 mixed calls, right and wrong ones, each answer as the model's. All promises. */
public final class RunsTest {
    private static final Checks CHECKS = new Checks("All promises, mixed runs");
    private static final int RUNS = 300;
    private static final int CALLS = 512;

    private final Random random;
    private final SlowSeal seal = new SlowSeal();
    private final Model model = new Model();

    private RunsTest(long seed) {
        random = new Random(seed);
    }

    public static void main(String[] args) {
        CHECKS.test("each call answers as the model", RunsTest::allRuns);
        CHECKS.end();
    }

    private static void allRuns() {
        for (int run = 0; run < RUNS; run++) {
            RunsTest test = new RunsTest(run);
            for (int call = 0; call < CALLS; call++) {
                test.anyCall("run " + run + ", call " + call + ": ");
            }
        }
    }

    private void anyCall(String where) {
        switch (random.nextInt(16)) {
            case 0: case 1: case 2: case 3: add(where); break;
            case 4: clearOrSize(where); break;
            case 5: case 6: at(where); break;
            case 7: hash(where); break;
            case 8: longHash(where); break;
            case 9: begin(where); break;
            case 10: case 11: fill(where); break;
            case 12: case 13: word(where); break;
            case 14: tagOrTold(where); break;
            default: seal(where); break;
        }
    }

    private void add(String where) {
        int r = register();
        int n = number(1, 8);
        long w = random.nextLong();
        CHECKS.due(where + "add(" + r + ", " + n + ", " + w + ")", seal.add(r, n, w), model.add(r, n, w));
    }

    /** Seldom clears, so that registers come to be full. */
    private void clearOrSize(String where) {
        int r = register();
        if (random.nextInt(4) == 0) {
            CHECKS.due(where + "clear(" + r + ")", seal.clear(r), model.clear(r));
        } else {
            CHECKS.due(where + "size(" + r + ")", seal.size(r), model.size(r));
        }
    }

    private void at(String where) {
        int r = register();
        int i = random.nextBoolean() ? number(0, 199) : number(0, Math.max(0, model.size(r)));
        CHECKS.due(where + "at(" + r + ", " + i + ")", seal.at(r, i), model.at(r, i));
    }

    private void hash(String where) {
        int to = register();
        int from = register();
        int key = registerOrNone();
        int n = number(1, 64);
        CHECKS.due(where + "hash(" + to + ", " + from + ", " + key + ", " + n + ")",
            seal.hash(to, from, key, n), model.hash(to, from, key, n));
    }

    private void longHash(String where) {
        int to = register();
        int from = register();
        int n = number(1, 200);
        CHECKS.due(where + "longHash(" + to + ", " + from + ", " + n + ")",
            seal.longHash(to, from, n), model.longHash(to, from, n));
    }

    private void begin(String where) {
        int[] s = sizes();
        int password = register();
        int salt = register();
        int secret = registerOrNone();
        int data = registerOrNone();
        CHECKS.due(where + "begin of " + java.util.Arrays.toString(s) + ", " + password + ", " + salt
            + ", " + secret + ", " + data,
            seal.begin(s[0], s[1], s[2], s[3], s[4], password, salt, secret, data),
            model.begin(s, password, salt, secret, data));
    }

    private void fill(String where) {
        int n = random.nextInt(4) == 0 ? number(1, 100) : number(1, 12);
        CHECKS.due(where + "fill(" + n + ")", seal.fill(n), model.fill(n));
    }

    private void word(String where) {
        int block = random.nextInt(3) == 0 ? number(0, 127) : number(0, Math.max(0, model.told(3) - 1));
        int k = number(0, 127);
        CHECKS.due(where + "word(" + block + ", " + k + ")", seal.word(block, k), model.word(block, k));
    }

    private void tagOrTold(String where) {
        if (random.nextBoolean()) {
            int to = register();
            CHECKS.due(where + "tag(" + to + ")", seal.tag(to), model.tag(to));
        } else {
            int what = number(0, 6);
            CHECKS.due(where + "told(" + what + ")", seal.told(what), model.told(what));
        }
    }

    private void seal(String where) {
        int to = register();
        int[] s = sizes();
        int password = register();
        int salt = register();
        CHECKS.due(where + "seal(" + to + ", ..) of " + java.util.Arrays.toString(s) + ", " + password
            + ", " + salt,
            seal.seal(to, s[0], s[1], s[2], s[3], s[4], password, salt), model.seal(to, s, password, salt));
    }

    private int[] sizes() {
        int lanes = number(1, 4);
        int least = lanes > 0 && lanes < 5 ? 8 * lanes : 8;
        int most = random.nextInt(3) == 0 ? 128 : least + 10;
        return new int[] {number(0, 2), lanes, number(1, 5), number(least, Math.min(128, most)), number(4, 128)};
    }

    private int register() {
        return number(0, 7);
    }

    private int registerOrNone() {
        return random.nextInt(3) == 0 ? SlowSeal.NONE : register();
    }

    /** Mostly within its ends, often at one of them, seldom just or far outside. */
    private int number(int least, int most) {
        switch (random.nextInt(60)) {
            case 0: return least - 1;
            case 1: return most + 1;
            case 2: return random.nextInt();
            case 3: return random.nextBoolean() ? Integer.MIN_VALUE : Integer.MAX_VALUE;
            case 4: case 5: case 6: return least;
            case 7: case 8: case 9: return most;
            default: return least + random.nextInt(most - least + 1);
        }
    }
}

/** Promise 5: byte i of a register; NONE: there is none. */
public final class Promise05AtTest {
    private static final Checks CHECKS = new Checks("Promise 5, at");

    public static void main(String[] args) {
        CHECKS.test("the first byte and the last one", Promise05AtTest::atTheEnds);
        CHECKS.test("behind the last byte there is none", Promise05AtTest::atBehindTheLast);
        CHECKS.test("before the first byte there is none", Promise05AtTest::atBeforeTheFirst);
        CHECKS.test("an empty register has none", Promise05AtTest::atOfAnEmptyRegister);
        CHECKS.test("a full register has them up to 199", Promise05AtTest::atOfAFullRegister);
        CHECKS.test("each byte is 0 .. 255, never NONE, BAD or REFUSED", Promise05AtTest::atOfEachByte);
        CHECKS.test("after a shorter result those of a longer one are gone", Promise05AtTest::atBehindAShorterResult);
        CHECKS.test("of each register its own", Promise05AtTest::atOfEachRegister);
        CHECKS.test("no such register is BAD, at any i", Promise05AtTest::atOfNoRegisterIsBad);
        CHECKS.test("it changes nothing", Promise05AtTest::atChangesNothing);
        CHECKS.end();
    }

    private static void atTheEnds() {
        for (int n = 1; n <= 200; n++) {
            SlowSeal x = new SlowSeal();
            Samples.put(x, 2, Samples.rising(20, n));
            CHECKS.due("at(2, 0) of " + n, x.at(2, 0), 20);
            CHECKS.due("the last of " + n, x.at(2, n - 1), (19 + n) & 255);
        }
    }

    private static void atBehindTheLast() {
        for (int n = 1; n <= 199; n++) {
            SlowSeal x = new SlowSeal();
            Samples.put(x, 2, Samples.rising(20, n));
            for (int i : new int[] {n, n + 1, 199, 200, 255, 256, Integer.MAX_VALUE}) {
                CHECKS.due("at(2, " + i + ") of " + n, x.at(2, i), SlowSeal.NONE);
            }
        }
    }

    private static void atBeforeTheFirst() {
        SlowSeal x = Samples.ready();
        for (int i : new int[] {-1, -2, -3, -8, -200, Integer.MIN_VALUE + 1, Integer.MIN_VALUE}) {
            CHECKS.due("at(0, " + i + ")", x.at(0, i), SlowSeal.NONE);
        }
    }

    private static void atOfAnEmptyRegister() {
        SlowSeal x = new SlowSeal();
        for (int r = 0; r < 8; r++) {
            for (int i : new int[] {0, 1, 199, 200, -1, Integer.MIN_VALUE, Integer.MAX_VALUE}) {
                CHECKS.due("at(" + r + ", " + i + ")", x.at(r, i), SlowSeal.NONE);
            }
            x.add(r, 1, 1);
            x.clear(r);
            CHECKS.due("at(" + r + ", 0) after clear", x.at(r, 0), SlowSeal.NONE);
        }
    }

    private static void atOfAFullRegister() {
        SlowSeal x = new SlowSeal();
        Samples.put(x, 2, Samples.rising(3, 200));
        for (int i = 0; i < 200; i++) {
            CHECKS.due("at(2, " + i + ")", x.at(2, i), 3 + i);
        }
        CHECKS.due("at(2, 200)", x.at(2, 200), SlowSeal.NONE);
        CHECKS.due("at(2, -1)", x.at(2, -1), SlowSeal.NONE);
    }

    private static void atOfEachByte() {
        for (int half = 0; half < 2; half++) {
            SlowSeal x = new SlowSeal();
            for (int b = 0; b < 128; b++) {
                x.add(1, 1, 128 * half + b);
                CHECKS.due("byte " + (128 * half + b), x.at(1, b), 128 * half + b);
            }
        }
    }

    private static void atBehindAShorterResult() {
        SlowSeal x = Samples.ready();
        x.longHash(2, 0, 200);
        x.hash(2, 0, SlowSeal.NONE, 1);
        CHECKS.due("at(2, 0)", x.at(2, 0) >= 0 ? 1 : 0, 1);
        for (int i = 1; i < 201; i++) {
            CHECKS.due("at(2, " + i + ")", x.at(2, i), SlowSeal.NONE);
        }
    }

    private static void atOfEachRegister() {
        SlowSeal x = Samples.ready();
        for (int r = 0; r < 8; r++) {
            for (int i = 0; i < 8; i++) {
                CHECKS.due("at(" + r + ", " + i + ")", x.at(r, i), Samples.wordFor(r) >>> 8 * i & 255);
            }
        }
    }

    private static void atOfNoRegisterIsBad() {
        SlowSeal x = Samples.ready();
        for (int r : Samples.NO_REGISTERS) {
            for (int i : new int[] {0, -1, 8, Integer.MIN_VALUE, Integer.MAX_VALUE}) {
                CHECKS.due("at(" + r + ", " + i + ")", x.at(r, i), SlowSeal.BAD);
            }
        }
    }

    private static void atChangesNothing() {
        SlowSeal x = Samples.ready();
        x.at(0, 0);
        x.at(0, 8);
        x.at(0, -1);
        CHECKS.due("size(0)", x.size(0), 8);
        CHECKS.due("at(0, 0) again", x.at(0, 0), Samples.wordFor(0) & 255);
    }
}

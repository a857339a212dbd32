/** Promise 4: how many bytes a register has. */
public final class Promise04SizeTest {
    private static final Checks CHECKS = new Checks("Promise 4, size");

    public static void main(String[] args) {
        CHECKS.test("an empty register has 0", Promise04SizeTest::sizeOfAnEmptyRegister);
        CHECKS.test("each size up to a full register's 200", Promise04SizeTest::sizeUpTo200);
        CHECKS.test("of each register its own", Promise04SizeTest::sizeOfEachRegister);
        CHECKS.test("after calls that replace the bytes", Promise04SizeTest::sizeAfterResults);
        CHECKS.test("after BAD and REFUSED as before", Promise04SizeTest::sizeAfterRefusedCalls);
        CHECKS.test("no such register is BAD", Promise04SizeTest::sizeOfNoRegisterIsBad);
        CHECKS.test("it changes nothing", Promise04SizeTest::sizeChangesNothing);
        CHECKS.end();
    }

    private static void sizeOfAnEmptyRegister() {
        SlowSeal x = new SlowSeal();
        for (int r = 0; r < 8; r++) {
            CHECKS.due("size(" + r + ")", x.size(r), 0);
            x.add(r, 1, 0);
            x.clear(r);
            CHECKS.due("size(" + r + ") after clear", x.size(r), 0);
        }
    }

    private static void sizeUpTo200() {
        SlowSeal x = new SlowSeal();
        for (int n = 1; n <= 200; n++) {
            x.add(6, 1, 0);
            CHECKS.due("size(6)", x.size(6), n);
        }
    }

    private static void sizeOfEachRegister() {
        SlowSeal x = new SlowSeal();
        for (int r = 0; r < 8; r++) {
            x.add(r, 8 - r, 0);
        }
        for (int r = 0; r < 8; r++) {
            CHECKS.due("size(" + r + ")", x.size(r), 8 - r);
        }
    }

    private static void sizeAfterResults() {
        SlowSeal x = Samples.ready();
        x.longHash(2, 0, 200);
        CHECKS.due("after longHash", x.size(2), 200);
        x.hash(2, 0, 1, 1);
        CHECKS.due("after hash", x.size(2), 1);
        x.seal(2, 0, 1, 1, 8, 128, 0, 1);
        CHECKS.due("after seal", x.size(2), 128);
        x.begin(0, 1, 1, 8, 4, 0, 1, -1, -1);
        x.fill(4);
        x.tag(2);
        CHECKS.due("after tag", x.size(2), 4);
    }

    private static void sizeAfterRefusedCalls() {
        SlowSeal x = new SlowSeal();
        Samples.put(x, 0, Samples.rising(0, 198));
        x.add(0, 3, 1);
        x.add(0, 9, 1);
        x.tag(0);
        x.hash(0, 0, 0, 5);
        x.hash(0, 0, -1, 65);
        x.longHash(0, 0, 201);
        x.seal(0, 3, 1, 1, 8, 4, 0, 0);
        CHECKS.due("size(0)", x.size(0), 198);
    }

    private static void sizeOfNoRegisterIsBad() {
        SlowSeal x = Samples.ready();
        for (int r : Samples.NO_REGISTERS) {
            CHECKS.due("size(" + r + ")", x.size(r), SlowSeal.BAD);
        }
    }

    private static void sizeChangesNothing() {
        SlowSeal x = Samples.ready();
        for (int i = 0; i < 5; i++) {
            CHECKS.due("size(4)", x.size(4), 8);
        }
        CHECKS.due("add then", x.add(4, 1, 0), 9);
    }
}

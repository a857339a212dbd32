/** Promise 1: Registers without bytes; nothing is filled. */
public final class Promise01NewObjectTest {
    private static final Checks CHECKS = new Checks("Promise 1, a new object");

    public static void main(String[] args) {
        CHECKS.test("each register is without bytes", Promise01NewObjectTest::newObjectHasEmptyRegisters);
        CHECKS.test("a register without bytes is an empty message, key and salt",
            Promise01NewObjectTest::newObjectHasEmptyMessages);
        CHECKS.test("nothing is filled: no words", Promise01NewObjectTest::newObjectHasNoWords);
        CHECKS.test("nothing is filled: nothing told", Promise01NewObjectTest::newObjectTellsNothing);
        CHECKS.test("nothing is filled: fill and tag are REFUSED", Promise01NewObjectTest::newObjectRefuses);
        CHECKS.test("a new object has nothing of another", Promise01NewObjectTest::newObjectIsAlone);
        CHECKS.end();
    }

    private static void newObjectHasEmptyRegisters() {
        SlowSeal x = new SlowSeal();
        for (int r = 0; r < 8; r++) {
            CHECKS.due("size(" + r + ")", x.size(r), 0);
            CHECKS.due("at(" + r + ", 0)", x.at(r, 0), SlowSeal.NONE);
            CHECKS.due("at(" + r + ", 199)", x.at(r, 199), SlowSeal.NONE);
            CHECKS.due("clear(" + r + ")", x.clear(r), 0);
        }
    }

    private static void newObjectHasEmptyMessages() {
        SlowSeal x = new SlowSeal();
        CHECKS.due("hash(7, 0, 1, 16)", x.hash(7, 0, 1, 16), 16);
        CHECKS.dueHex("hash of no bytes", x, 7, "cae66941d9efbd404e4d88758ea67670");
        CHECKS.due("begin with an empty salt", x.begin(0, 1, 1, 8, 4, 0, 1, 2, 3), SlowSeal.BAD);
    }

    private static void newObjectHasNoWords() {
        SlowSeal x = new SlowSeal();
        for (int block = 0; block < 128; block++) {
            CHECKS.due("word(" + block + ", 0)", x.word(block, 0), 0);
            CHECKS.due("word(" + block + ", 127)", x.word(block, 127), 0);
        }
    }

    private static void newObjectTellsNothing() {
        SlowSeal x = new SlowSeal();
        for (int what = 0; what < 7; what++) {
            CHECKS.due("told(" + what + ")", x.told(what), 0);
        }
    }

    private static void newObjectRefuses() {
        SlowSeal x = new SlowSeal();
        CHECKS.due("fill(1)", x.fill(1), SlowSeal.REFUSED);
        CHECKS.due("fill(100)", x.fill(100), SlowSeal.REFUSED);
        for (int r = 0; r < 8; r++) {
            CHECKS.due("tag(" + r + ")", x.tag(r), SlowSeal.REFUSED);
        }
    }

    private static void newObjectIsAlone() {
        SlowSeal before = new SlowSeal();
        SlowSeal used = Samples.ready();
        used.seal(7, 2, 4, 2, 128, 128, 0, 1);
        SlowSeal after = new SlowSeal();
        for (SlowSeal x : new SlowSeal[] {before, after}) {
            for (int r = 0; r < 8; r++) {
                CHECKS.due("size(" + r + ")", x.size(r), 0);
            }
            for (int block = 0; block < 128; block++) {
                CHECKS.due("word(" + block + ", 3)", x.word(block, 3), 0);
            }
            CHECKS.due("told(1)", x.told(1), 0);
            CHECKS.due("fill(1)", x.fill(1), SlowSeal.REFUSED);
            CHECKS.due("tag(0)", x.tag(0), SlowSeal.REFUSED);
        }
    }
}

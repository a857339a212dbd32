/** Promise 3: a register is without bytes: how many it had. */
public final class Promise03ClearTest {
    private static final Checks CHECKS = new Checks("Promise 3, clear");

    public static void main(String[] args) {
        CHECKS.test("it answers how many it had", Promise03ClearTest::clearAnswersHowMany);
        CHECKS.test("an empty register had 0", Promise03ClearTest::clearOfAnEmptyRegister);
        CHECKS.test("a full register had 200", Promise03ClearTest::clearOfAFullRegister);
        CHECKS.test("the register is without bytes", Promise03ClearTest::clearLeavesNoBytes);
        CHECKS.test("other registers stay", Promise03ClearTest::clearLeavesOthers);
        CHECKS.test("no such register is BAD", Promise03ClearTest::clearOfNoRegisterIsBad);
        CHECKS.test("BAD changes nothing", Promise03ClearTest::clearThatIsBadChangesNothing);
        CHECKS.test("a cleared register is an empty message, key and salt", Promise03ClearTest::clearedAsInput);
        CHECKS.test("what is filled stays", Promise03ClearTest::clearLeavesTheFilling);
        CHECKS.end();
    }

    private static void clearAnswersHowMany() {
        SlowSeal x = new SlowSeal();
        for (int r = 0; r < 8; r++) {
            x.add(r, r + 1, r);
        }
        for (int r = 0; r < 8; r++) {
            CHECKS.due("clear(" + r + ")", x.clear(r), r + 1);
        }
    }

    private static void clearOfAnEmptyRegister() {
        SlowSeal x = new SlowSeal();
        for (int r = 0; r < 8; r++) {
            CHECKS.due("clear(" + r + ") of a new object", x.clear(r), 0);
            x.add(r, 3, 1);
            x.clear(r);
            CHECKS.due("clear(" + r + ") again", x.clear(r), 0);
        }
    }

    private static void clearOfAFullRegister() {
        SlowSeal x = new SlowSeal();
        Samples.put(x, 5, Samples.rising(0, 200));
        x.add(5, 1, 1);
        CHECKS.due("clear of 200", x.clear(5), 200);
        CHECKS.due("clear again", x.clear(5), 0);
    }

    private static void clearLeavesNoBytes() {
        SlowSeal x = new SlowSeal();
        Samples.put(x, 5, Samples.rising(1, 200));
        x.clear(5);
        CHECKS.due("size(5)", x.size(5), 0);
        for (int i = 0; i < 200; i++) {
            CHECKS.due("at(5, " + i + ")", x.at(5, i), SlowSeal.NONE);
        }
    }

    private static void clearLeavesOthers() {
        for (int cleared = 0; cleared < 8; cleared++) {
            SlowSeal x = Samples.ready();
            x.clear(cleared);
            for (int r = 0; r < 8; r++) {
                CHECKS.due("size(" + r + ") after clear(" + cleared + ")", x.size(r), r == cleared ? 0 : 8);
            }
        }
    }

    private static void clearOfNoRegisterIsBad() {
        SlowSeal x = Samples.ready();
        for (int r : Samples.NO_REGISTERS) {
            CHECKS.due("clear(" + r + ")", x.clear(r), SlowSeal.BAD);
        }
    }

    private static void clearThatIsBadChangesNothing() {
        SlowSeal x = Samples.ready();
        for (int r : Samples.NO_REGISTERS) {
            x.clear(r);
        }
        for (int r = 0; r < 8; r++) {
            CHECKS.due("size(" + r + ")", x.size(r), 8);
        }
    }

    private static void clearedAsInput() {
        SlowSeal x = new SlowSeal();
        for (int r = 0; r < 3; r++) {
            Samples.put(x, r, Samples.rising(9, 200));
            x.clear(r);
        }
        CHECKS.due("hash of it, with it as key", x.hash(7, 0, 1, 16), 16);
        CHECKS.dueHex("as of no bytes", x, 7, "cae66941d9efbd404e4d88758ea67670");
        CHECKS.due("begin with it as salt", x.begin(0, 1, 1, 8, 4, 0, 2, -1, -1), SlowSeal.BAD);
    }

    private static void clearLeavesTheFilling() {
        int[] sizes = {2, 2, 2, 20, 50};
        SlowSeal x = Samples.filled(sizes, 5);
        Model model = Samples.filledModel(sizes, 16);
        for (int r = 0; r < 8; r++) {
            x.clear(r);
        }
        CHECKS.due("told(4)", x.told(4), 5);
        CHECKS.due("fill(100)", x.fill(100), 11);
        x.tag(7);
        model.tag(7);
        CHECKS.dueBytes("the tag", x, 7, model.bytes(7));
    }
}

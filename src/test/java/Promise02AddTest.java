/** Promise 2: the n lowest bytes (1 .. 8) of w come behind a register's; REFUSED beyond 200. */
public final class Promise02AddTest {
    private static final Checks CHECKS = new Checks("Promise 2, add");

    public static void main(String[] args) {
        CHECKS.test("the n lowest bytes, the lowest first", Promise02AddTest::addTakesTheLowestFirst);
        CHECKS.test("the bytes above the n lowest stay out", Promise02AddTest::addLeavesTheUpperBytes);
        CHECKS.test("w may be any number", Promise02AddTest::addOfAnyWord);
        CHECKS.test("they come behind those the register has", Promise02AddTest::addComesBehind);
        CHECKS.test("it answers how many it has", Promise02AddTest::addAnswersHowMany);
        CHECKS.test("n below 1 is BAD", Promise02AddTest::addOfTooFewIsBad);
        CHECKS.test("n above 8 is BAD", Promise02AddTest::addOfTooManyIsBad);
        CHECKS.test("no such register is BAD", Promise02AddTest::addToNoRegisterIsBad);
        CHECKS.test("BAD changes nothing", Promise02AddTest::addThatIsBadChangesNothing);
        CHECKS.test("just 200 is not REFUSED", Promise02AddTest::addUpTo200);
        CHECKS.test("201 and more is REFUSED", Promise02AddTest::addBeyond200IsRefused);
        CHECKS.test("a full register refuses each n", Promise02AddTest::addToAFullRegisterIsRefused);
        CHECKS.test("REFUSED changes nothing, not even what would fit", Promise02AddTest::addThatIsRefusedChangesNothing);
        CHECKS.test("after REFUSED what fits still comes", Promise02AddTest::addOfLessAfterRefused);
        CHECKS.test("REFUSED is one register's alone", Promise02AddTest::addToAnotherThanTheFullOne);
        CHECKS.test("a wrong number at a full register is BAD", Promise02AddTest::addWronglyToAFullRegister);
        CHECKS.test("what hash, longHash and tag gave counts", Promise02AddTest::addBehindWhatCallsGave);
        CHECKS.test("a full register has room again after clear", Promise02AddTest::addAfterClear);
        CHECKS.end();
    }

    private static void addTakesTheLowestFirst() {
        for (int n = 1; n <= 8; n++) {
            for (int r = 0; r < 8; r++) {
                SlowSeal x = new SlowSeal();
                x.add(r, n, 0x8877665544332211L);
                for (int i = 0; i < n; i++) {
                    CHECKS.due("byte " + i + " of " + n, x.at(r, i), 0x11 * (i + 1));
                }
                CHECKS.due("byte behind " + n, x.at(r, n), SlowSeal.NONE);
            }
        }
    }

    private static void addLeavesTheUpperBytes() {
        SlowSeal x = new SlowSeal();
        CHECKS.due("add(0, 1, 0x1ff)", x.add(0, 1, 0x1FF), 1);
        CHECKS.due("add(0, 7, 0xff00000000000000)", x.add(0, 7, 0xFF00000000000000L), 8);
        CHECKS.dueHex("both", x, 0, "ff00000000000000");
    }

    private static void addOfAnyWord() {
        SlowSeal x = new SlowSeal();
        x.add(0, 8, Long.MIN_VALUE);
        x.add(1, 8, Long.MAX_VALUE);
        x.add(2, 8, -1L);
        x.add(3, 8, 0L);
        x.add(4, 1, -128L);
        CHECKS.dueHex("the least", x, 0, "0000000000000080");
        CHECKS.dueHex("the greatest", x, 1, "ffffffffffffff7f");
        CHECKS.dueHex("-1", x, 2, "ffffffffffffffff");
        CHECKS.dueHex("0", x, 3, "0000000000000000");
        CHECKS.dueHex("-128", x, 4, "80");
    }

    private static void addComesBehind() {
        SlowSeal x = new SlowSeal();
        x.add(0, 2, 0xFF00FFL);
        x.add(0, 1, 7);
        x.add(0, 3, 0x030201);
        CHECKS.dueHex("three adds", x, 0, "ff0007010203");
    }

    private static void addAnswersHowMany() {
        for (int n = 1; n <= 8; n++) {
            SlowSeal x = new SlowSeal();
            for (int i = 1; i <= 25; i++) {
                CHECKS.due("add no. " + i + " of " + n, x.add(7, n, i), n * i);
            }
        }
    }

    private static void addOfTooFewIsBad() {
        SlowSeal x = new SlowSeal();
        CHECKS.due("add of 0", x.add(0, 0, 1), SlowSeal.BAD);
        CHECKS.due("add of -1", x.add(0, -1, 1), SlowSeal.BAD);
        CHECKS.due("add of the least", x.add(0, Integer.MIN_VALUE, 1), SlowSeal.BAD);
        CHECKS.due("add of 1", x.add(0, 1, 1), 1);
    }

    private static void addOfTooManyIsBad() {
        SlowSeal x = new SlowSeal();
        CHECKS.due("add of 9", x.add(0, 9, 1), SlowSeal.BAD);
        CHECKS.due("add of 200", x.add(0, 200, 1), SlowSeal.BAD);
        CHECKS.due("add of the most", x.add(0, Integer.MAX_VALUE, 1), SlowSeal.BAD);
        CHECKS.due("add of 8", x.add(0, 8, 1), 8);
    }

    private static void addToNoRegisterIsBad() {
        SlowSeal x = new SlowSeal();
        for (int r : Samples.NO_REGISTERS) {
            CHECKS.due("add to " + r, x.add(r, 1, 1), SlowSeal.BAD);
        }
        CHECKS.due("add to 0", x.add(0, 1, 1), 1);
        CHECKS.due("add to 7", x.add(7, 1, 1), 1);
    }

    private static void addThatIsBadChangesNothing() {
        SlowSeal x = Samples.ready();
        x.add(0, 0, -1);
        x.add(1, 9, -1);
        x.add(-1, 1, -1);
        x.add(8, 1, -1);
        for (int r = 0; r < 8; r++) {
            CHECKS.due("size(" + r + ")", x.size(r), 8);
            CHECKS.due("at(" + r + ", 0)", x.at(r, 0), Samples.wordFor(r) & 255);
            CHECKS.due("at(" + r + ", 7)", x.at(r, 7), Samples.wordFor(r) >>> 56);
        }
    }

    private static void addUpTo200() {
        for (int n = 1; n <= 8; n++) {
            SlowSeal x = new SlowSeal();
            Samples.put(x, 3, Samples.rising(0, 200 - n));
            CHECKS.due("add of " + n + " to " + (200 - n), x.add(3, n, -2L), 200);
            CHECKS.due("the last byte", x.at(3, 199), n == 1 ? 254 : 255);
            CHECKS.due("its first byte", x.at(3, 200 - n), 254);
        }
    }

    private static void addBeyond200IsRefused() {
        for (int n = 2; n <= 8; n++) {
            for (int over = 1; over < n; over++) {
                SlowSeal x = new SlowSeal();
                Samples.put(x, 3, Samples.rising(0, 200 - n + over));
                CHECKS.due("add of " + n + " to " + (200 - n + over), x.add(3, n, 1), SlowSeal.REFUSED);
            }
        }
    }

    private static void addToAFullRegisterIsRefused() {
        for (int r = 0; r < 8; r++) {
            SlowSeal x = new SlowSeal();
            Samples.put(x, r, Samples.rising(0, 200));
            for (int n = 1; n <= 8; n++) {
                CHECKS.due("add(" + r + ", " + n + ", ..)", x.add(r, n, 1), SlowSeal.REFUSED);
            }
        }
    }

    private static void addThatIsRefusedChangesNothing() {
        SlowSeal x = new SlowSeal();
        Samples.put(x, 3, Samples.rising(0, 199));
        x.add(3, 2, -1L);
        CHECKS.due("size of 199", x.size(3), 199);
        CHECKS.dueBytes("199 bytes", x, 3, Samples.rising(0, 199));
        CHECKS.due("at(3, 199)", x.at(3, 199), SlowSeal.NONE);
        SlowSeal full = new SlowSeal();
        Samples.put(full, 3, Samples.rising(0, 200));
        full.add(3, 1, -1L);
        CHECKS.dueBytes("200 bytes", full, 3, Samples.rising(0, 200));
    }

    private static void addOfLessAfterRefused() {
        SlowSeal x = new SlowSeal();
        Samples.put(x, 3, Samples.rising(0, 195));
        for (int n = 8; n > 5; n--) {
            CHECKS.due("add of " + n + " to 195", x.add(3, n, 1), SlowSeal.REFUSED);
        }
        CHECKS.due("add of 5 to 195", x.add(3, 5, 9), 200);
        CHECKS.due("its byte", x.at(3, 195), 9);
    }

    private static void addToAnotherThanTheFullOne() {
        SlowSeal x = new SlowSeal();
        Samples.put(x, 3, Samples.rising(0, 200));
        x.add(3, 8, 1);
        for (int r = 0; r < 8; r++) {
            if (r != 3) {
                CHECKS.due("add to " + r, x.add(r, 8, 1), 8);
            }
        }
    }

    private static void addWronglyToAFullRegister() {
        SlowSeal x = new SlowSeal();
        Samples.put(x, 3, Samples.rising(0, 200));
        CHECKS.due("add of 0 to 200", x.add(3, 0, 1), SlowSeal.BAD);
        CHECKS.due("add of 9 to 200", x.add(3, 9, 1), SlowSeal.BAD);
        CHECKS.due("add of -1 to 200", x.add(3, -1, 1), SlowSeal.BAD);
    }

    private static void addBehindWhatCallsGave() {
        SlowSeal x = Samples.ready();
        x.hash(2, 0, SlowSeal.NONE, 64);
        CHECKS.due("add behind a hash", x.add(2, 8, 1), 72);
        x.longHash(3, 0, 200);
        CHECKS.due("add behind a long one", x.add(3, 1, 1), SlowSeal.REFUSED);
        x.longHash(3, 0, 199);
        CHECKS.due("add of 2 behind 199", x.add(3, 2, 1), SlowSeal.REFUSED);
        CHECKS.due("add of 1 behind 199", x.add(3, 1, 5), 200);
        CHECKS.due("its byte", x.at(3, 199), 5);
        x.seal(4, 0, 1, 1, 8, 128, 0, 1);
        CHECKS.due("add behind a tag", x.add(4, 3, 1), 131);
    }

    private static void addAfterClear() {
        SlowSeal x = new SlowSeal();
        Samples.put(x, 3, Samples.rising(50, 200));
        x.clear(3);
        CHECKS.due("add after clear", x.add(3, 2, 1), 2);
        CHECKS.dueHex("its bytes", x, 3, "0100");
        CHECKS.due("no byte of before", x.at(3, 2), SlowSeal.NONE);
    }
}

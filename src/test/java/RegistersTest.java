/** Promises 1 to 5: a new object, add, clear, size, at. */
public final class RegistersTest {
    private static final Checks CHECKS = new Checks();

    public static void main(String[] args) {
        newObject();
        addLowestBytes();
        addAtTheEdgeOfRoom();
        addWrongly();
        clearAndCount();
        atEdges();
        CHECKS.end("RegistersTest");
    }

    private static void newObject() {
        SlowSeal x = new SlowSeal();
        for (int r = 0; r < 8; r++) {
            CHECKS.due("new size(" + r + ")", x.size(r), 0);
            CHECKS.due("new at(" + r + ", 0)", x.at(r, 0), SlowSeal.NONE);
            CHECKS.due("new clear(" + r + ")", x.clear(r), 0);
        }
        for (int what = 0; what < 7; what++) {
            CHECKS.due("new told(" + what + ")", x.told(what), 0);
        }
        CHECKS.due("new fill(1)", x.fill(1), SlowSeal.REFUSED);
        CHECKS.due("new tag(0)", x.tag(0), SlowSeal.REFUSED);
        for (int block = 0; block < 128; block++) {
            CHECKS.due("new word(" + block + ", 0)", x.word(block, 0), 0);
        }
        SlowSeal other = new SlowSeal();
        x.add(0, 1, 7);
        CHECKS.due("size(0) of another object", other.size(0), 0);
    }

    private static void addLowestBytes() {
        for (int n = 1; n <= 8; n++) {
            SlowSeal x = new SlowSeal();
            CHECKS.due("add of " + n, x.add(7, n, 0x8877665544332211L), n);
            CHECKS.due("size after add of " + n, x.size(7), n);
            for (int i = 0; i < n; i++) {
                CHECKS.due("byte " + i + " of " + n, x.at(7, i), 0x11 * (i + 1));
            }
            CHECKS.due("byte behind " + n, x.at(7, n), SlowSeal.NONE);
        }
        SlowSeal x = new SlowSeal();
        CHECKS.due("add(0, 2, ..)", x.add(0, 2, 0xFF00FFL), 2);
        CHECKS.due("add(0, 1, ..)", x.add(0, 1, -1L), 3);
        CHECKS.dueHex("two adds", x, 0, "ff00ff");
    }

    private static void addAtTheEdgeOfRoom() {
        SlowSeal x = new SlowSeal();
        for (int i = 1; i <= 24; i++) {
            CHECKS.due("add no. " + i, x.add(3, 8, i), 8 * i);
        }
        CHECKS.due("add to 199", x.add(3, 7, 5), 199);
        CHECKS.due("add to 201", x.add(3, 2, -1L), SlowSeal.REFUSED);
        CHECKS.due("size after REFUSED", x.size(3), 199);
        CHECKS.due("at after REFUSED", x.at(3, 199), SlowSeal.NONE);
        CHECKS.due("add to 200", x.add(3, 1, 254), 200);
        CHECKS.due("the last byte", x.at(3, 199), 254);
        CHECKS.due("add behind 200", x.add(3, 1, 1), SlowSeal.REFUSED);
        CHECKS.due("wrong add behind 200", x.add(3, 9, 1), SlowSeal.BAD);
        CHECKS.due("at(3, 200)", x.at(3, 200), SlowSeal.NONE);
        CHECKS.due("clear of a full one", x.clear(3), 200);
        CHECKS.due("add after clear", x.add(3, 8, 1), 8);
        CHECKS.due("full once: add(2, 8, ..)", x.add(2, 8, 1), 8);
    }

    private static void addWrongly() {
        SlowSeal x = new SlowSeal();
        int[] noRegisters = {-1, 8, -2, 9, 256, Integer.MIN_VALUE, Integer.MAX_VALUE};
        for (int r : noRegisters) {
            CHECKS.due("add to " + r, x.add(r, 1, 1), SlowSeal.BAD);
            CHECKS.due("clear of " + r, x.clear(r), SlowSeal.BAD);
            CHECKS.due("size of " + r, x.size(r), SlowSeal.BAD);
            CHECKS.due("at of " + r, x.at(r, 0), SlowSeal.BAD);
        }
        int[] noCounts = {0, -1, 9, Integer.MIN_VALUE, Integer.MAX_VALUE};
        for (int n : noCounts) {
            CHECKS.due("add of " + n, x.add(0, n, 1), SlowSeal.BAD);
        }
        for (int r = 0; r < 8; r++) {
            CHECKS.due("size after BAD", x.size(r), 0);
        }
    }

    private static void clearAndCount() {
        SlowSeal x = new SlowSeal();
        for (int r = 0; r < 8; r++) {
            x.add(r, r + 1, r);
        }
        for (int r = 0; r < 8; r++) {
            CHECKS.due("clear(" + r + ")", x.clear(r), r + 1);
            CHECKS.due("clear(" + r + ") again", x.clear(r), 0);
            CHECKS.due("at(" + r + ", 0) after clear", x.at(r, 0), SlowSeal.NONE);
            for (int other = r + 1; other < 8; other++) {
                CHECKS.due("size(" + other + ") after clear(" + r + ")", x.size(other), other + 1);
            }
        }
    }

    private static void atEdges() {
        SlowSeal x = new SlowSeal();
        x.add(0, 8, 0x80FF7F0001020304L);
        CHECKS.due("at of 128", x.at(0, 7), 128);
        CHECKS.due("at of 255", x.at(0, 6), 255);
        CHECKS.due("at of 127", x.at(0, 5), 127);
        CHECKS.due("at of 0", x.at(0, 4), 0);
        int[] noPlaces = {-1, -2, 8, 199, 200, Integer.MIN_VALUE, Integer.MAX_VALUE};
        for (int i : noPlaces) {
            CHECKS.due("at(0, " + i + ")", x.at(0, i), SlowSeal.NONE);
        }
    }
}

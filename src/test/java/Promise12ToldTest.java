/** Promise 12: of FILLING: KIND, lanes, passes, blocks, segments done and in all, TAG (0 each before any). */
public final class Promise12ToldTest {
    private static final Checks CHECKS = new Checks("Promise 12, told");
    private static final int[] NO_QUESTIONS = {-1, 7, -2, 8, 100, Integer.MIN_VALUE, Integer.MAX_VALUE};

    public static void main(String[] args) {
        CHECKS.test("0 each before any", Promise12ToldTest::toldBeforeAny);
        CHECKS.test("0 each after a begin or seal that is BAD", Promise12ToldTest::toldAfterBadBegins);
        CHECKS.test("each of 0 .. 6, in this order", Promise12ToldTest::toldOfEach);
        CHECKS.test("what below 0 or above 6 is BAD", Promise12ToldTest::toldOfNoQuestionIsBad);
        CHECKS.test("the smallest filling and the largest", Promise12ToldTest::toldOfTheSmallestAndLargest);
        CHECKS.test("3: the blocks there are, not the memory asked for", Promise12ToldTest::toldOfBlocksCutOff);
        CHECKS.test("4: from 0 to all of 5, and no further", Promise12ToldTest::toldOfSegments);
        CHECKS.test("of another filling after another begin", Promise12ToldTest::toldAfterAnotherBegin);
        CHECKS.test("it stays after BAD and REFUSED", Promise12ToldTest::toldAfterBadAndRefused);
        CHECKS.end();
    }

    private static void dueTold(String when, SlowSeal x, int[] want) {
        for (int what = 0; what < 7; what++) {
            CHECKS.due("told(" + what + ") " + when, x.told(what), want[what]);
        }
    }

    private static void toldBeforeAny() {
        dueTold("of a new object", new SlowSeal(), new int[7]);
        SlowSeal x = Samples.ready();
        x.hash(0, 1, 2, 64);
        x.longHash(3, 1, 200);
        x.fill(1);
        x.tag(0);
        dueTold("before any begin", x, new int[7]);
    }

    private static void toldAfterBadBegins() {
        SlowSeal x = Samples.ready();
        x.clear(7);
        x.begin(2, 4, 5, 128, 128, 0, 7, -1, -1);
        dueTold("after begin with an empty salt", x, new int[7]);
        x.begin(2, 4, 5, 128, 129, 0, 1, -1, -1);
        dueTold("after begin with a tag too long", x, new int[7]);
        x.seal(8, 2, 4, 5, 128, 128, 0, 1);
        dueTold("after seal to no register", x, new int[7]);
    }

    private static void toldOfEach() {
        SlowSeal x = Samples.filled(new int[] {2, 3, 5, 127, 77}, 31);
        dueTold("after 31 segments", x, new int[] {2, 3, 5, 120, 31, 60, 77});
        for (int kind = 0; kind < 3; kind++) {
            for (int lanes = 1; lanes < 5; lanes++) {
                for (int passes = 1; passes < 6; passes++) {
                    x = Samples.filled(new int[] {kind, lanes, passes, 96, 50 + passes}, 1);
                    dueTold("after 1 segment", x,
                        new int[] {kind, lanes, passes, 96, 1, 4 * lanes * passes, 50 + passes});
                }
            }
        }
    }

    private static void toldOfNoQuestionIsBad() {
        SlowSeal x = new SlowSeal();
        SlowSeal begun = Samples.filled(new int[] {2, 3, 5, 127, 77}, 31);
        for (int what : NO_QUESTIONS) {
            CHECKS.due("told(" + what + ") of nothing", x.told(what), SlowSeal.BAD);
            CHECKS.due("told(" + what + ")", begun.told(what), SlowSeal.BAD);
        }
    }

    private static void toldOfTheSmallestAndLargest() {
        dueTold("of the smallest", Samples.filled(new int[] {0, 1, 1, 8, 4}, 4), new int[] {0, 1, 1, 8, 4, 4, 4});
        dueTold("of the largest", Samples.filled(new int[] {2, 4, 5, 128, 128}, 80),
            new int[] {2, 4, 5, 128, 80, 80, 128});
    }

    private static void toldOfBlocksCutOff() {
        for (int lanes = 1; lanes <= 4; lanes++) {
            for (int memory = 8 * lanes; memory < 16 * lanes; memory++) {
                SlowSeal x = Samples.filled(new int[] {0, lanes, 1, memory, 4}, 0);
                CHECKS.due("told(3) of memory " + memory, x.told(3), memory < 12 * lanes ? 8 * lanes : 12 * lanes);
            }
        }
    }

    private static void toldOfSegments() {
        SlowSeal x = Samples.filled(new int[] {1, 2, 3, 16, 4}, 0);
        for (int done = 0; done < 24; done++) {
            CHECKS.due("told(4)", x.told(4), done);
            CHECKS.due("told(5)", x.told(5), 24);
            x.fill(1);
        }
        CHECKS.due("told(4) at the end", x.told(4), 24);
        x.fill(100);
        CHECKS.due("told(4) behind the end", x.told(4), 24);
        CHECKS.due("told(5) behind the end", x.told(5), 24);
    }

    private static void toldAfterAnotherBegin() {
        SlowSeal x = Samples.filled(new int[] {2, 4, 5, 128, 128}, 80);
        Samples.beginOf(x, new int[] {1, 3, 2, 50, 9});
        dueTold("after another begin", x, new int[] {1, 3, 2, 48, 0, 24, 9});
        x.seal(7, 0, 2, 1, 17, 5, 0, 1);
        dueTold("after seal", x, new int[] {0, 2, 1, 16, 8, 8, 5});
    }

    private static void toldAfterBadAndRefused() {
        SlowSeal x = Samples.filled(new int[] {2, 3, 5, 127, 77}, 31);
        x.fill(0);
        x.fill(101);
        x.tag(0);
        x.tag(8);
        x.told(7);
        x.begin(0, 1, 1, 8, 3, 0, 1, -1, -1);
        x.seal(8, 0, 1, 1, 8, 4, 0, 1);
        x.seal(0, 0, 1, 1, 8, 4, 0, 8);
        dueTold("after calls that did nothing", x, new int[] {2, 3, 5, 120, 31, 60, 77});
    }
}

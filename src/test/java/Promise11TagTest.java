/** Promise 11: THE TAG comes to a register; REFUSED: nothing was begun, or not all segments are done. */
public final class Promise11TagTest {
    private static final Checks CHECKS = new Checks("Promise 11, tag");

    public static void main(String[] args) {
        CHECKS.test("THE TAG as known elsewhere", Promise11TagTest::tagsKnown);
        CHECKS.test("each TAG from 4 to 128 bytes", Promise11TagTest::tagOfEachSize);
        CHECKS.test("REFUSED: nothing was begun", Promise11TagTest::tagOfNothingIsRefused);
        CHECKS.test("REFUSED: no segment is done", Promise11TagTest::tagAfterBeginIsRefused);
        CHECKS.test("REFUSED: not all segments are done, not even but for one", Promise11TagTest::tagBeforeTheEndIsRefused);
        CHECKS.test("REFUSED changes nothing", Promise11TagTest::tagThatIsRefusedChangesNothing);
        CHECKS.test("no such register is BAD", Promise11TagTest::tagToNoRegisterIsBad);
        CHECKS.test("no such register is BAD even before the end", Promise11TagTest::tagToNoRegisterBeforeTheEndIsBad);
        CHECKS.test("BAD changes nothing", Promise11TagTest::tagThatIsBadChangesNothing);
        CHECKS.test("the last blocks of all lanes, ^ together", Promise11TagTest::tagOfEachNumberOfLanes);
        CHECKS.test("it takes the place of what was there", Promise11TagTest::tagReplaces);
        CHECKS.test("it may come to each register, its inputs too", Promise11TagTest::tagToEachRegister);
        CHECKS.test("it can be had again, and what is filled stays", Promise11TagTest::tagAgain);
        CHECKS.test("other registers stay", Promise11TagTest::tagLeavesOthers);
        CHECKS.test("after another begin it is REFUSED again", Promise11TagTest::tagAfterAnotherBegin);
        CHECKS.end();
    }

    /** From the C library libargon2, which fills as the document says. */
    private static void tagsKnown() {
        known(new int[] {0, 1, 1, 8, 4}, new int[] {0, 8, 0, 0},
            "a6a25d52");
        known(new int[] {1, 1, 1, 8, 4}, new int[] {1, 8, 0, 0},
            "bfa94dba");
        known(new int[] {2, 1, 1, 8, 4}, new int[] {8, 9, 0, 0},
            "0160ab2d");
        known(new int[] {0, 4, 5, 128, 128}, new int[] {200, 200, 200, 200},
            "a0a204c1cd578af24738831e9ec345084134c0dd11277fa7a7944c4cbf4582eecc89aca97e0cab5a"
            + "f35fca0a3346da80df8df82d2d9b42e20d95d21a0fa50c8e3af527844c85d621a4c9a16b3bc5ec67"
            + "2b2694768a557dec60dffa3037cb2c847650c73dea8fdc414358c23c54232a6990f8c3186ea02bed"
            + "33440fe623c017a4");
        known(new int[] {1, 4, 5, 128, 128}, new int[] {200, 200, 200, 200},
            "73cd850ea6b79b1639c82b8ea5e37048a4b0f7db8bf79514623f0f64b56dda18fc3a5d02e82de529"
            + "1ed20319b20475692fc26f132ac1752efd20f1d441a6cb0235fadefcdbd9515a407c0bdc7d64e036"
            + "a3c582e80a3385cc10745c84f8143246b06eb4cb8ab1158505010545b616be6a60d2ea0569f88df6"
            + "75b8f65aa485d60a");
        known(new int[] {2, 4, 5, 128, 128}, new int[] {200, 200, 200, 200},
            "10111787284e5bee7811d33a55c08dff69fe406863f9e1ce38c412c019d30af1e50b6f4b8e6407c8"
            + "d73b4ac855de30712dd2106e0b2cf19f3ddcb08af1900059874b05a1af5cd1132c99a5626def947a"
            + "32d8a2ca79c0e66038b68689f74e7279027f6de710b429066b8c0514625f7d0194dd01e4c297d10d"
            + "05d5ec468095e54d");
        known(new int[] {0, 2, 3, 37, 65}, new int[] {10, 16, 0, 5},
            "34dc63796103ea30dbff09ebf85bc004927011f959a1fd07ab08e0123b0265f0bd5b35f752d5d5b5"
            + "a43aa6d7c0a3bccfed7f42c80c209a8d3b51608af07787f4ca");
        known(new int[] {1, 3, 2, 100, 64}, new int[] {10, 16, 5, 0},
            "161eaf780a661df64d546897ac383dfeb2c997403ec84817d9c3d08c42c979c9a3cb97cdb88198bf"
            + "4209b35708614c40dc49f14f46043257c55b1825a74eaadd");
        known(new int[] {2, 3, 4, 95, 33}, new int[] {0, 16, 1, 1},
            "41283e80afc1bbd9da3ab0a9ae9169cd4586e26b92e5ee8ade70fce79c028a11c9");
        known(new int[] {2, 1, 5, 127, 32}, new int[] {5, 8, 0, 0},
            "dc582679a269357c2b4691f75fc370b3111ea4edbd25c152e5f0042f2b0e6e4b");
        known(new int[] {1, 1, 3, 128, 5}, new int[] {3, 8, 8, 0},
            "39a04277cf");
        known(new int[] {2, 4, 1, 32, 24}, new int[] {3, 8, 8, 0},
            "fa84fd11427c43b85e39eadaaa7d11ee16a7d6110bfa397e");
        known(new int[] {0, 3, 1, 24, 16}, new int[] {3, 8, 8, 0},
            "1b8a23d7ac4cf89fc5e46b6643fe0c0b");
        known(new int[] {0, 2, 2, 16, 16}, new int[] {3, 8, 8, 0},
            "7b7465a2f5cc48a089c3c3b2d99e4e6b");
        known(new int[] {1, 4, 2, 47, 16}, new int[] {3, 8, 8, 0},
            "259572d01d30374db3990674fae43399");
    }

    private static void known(int[] s, int[] bytes, String want) {
        SlowSeal x = new SlowSeal();
        int[] firsts = {1, 50, 100, 150};
        for (int i = 0; i < 4; i++) {
            Samples.put(x, 2 * i, Samples.rising(firsts[i], bytes[i]));
        }
        String call = "kind " + s[0] + " of " + s[1] + " lanes, " + s[2] + " passes, " + s[3];
        int secret = bytes[2] == 0 ? SlowSeal.NONE : 4;
        CHECKS.due(call, x.begin(s[0], s[1], s[2], s[3], s[4], 0, 2, secret, 6),
            s[3] / (4 * s[1]) * 4 * s[1]);
        CHECKS.due(call, x.fill(100), 4 * s[1] * s[2]);
        CHECKS.due(call, x.tag(7), s[4]);
        CHECKS.dueHex(call, x, 7, want);
        if (bytes[2] == 0 && bytes[3] == 0) {
            CHECKS.due(call + " sealed", x.seal(5, s[0], s[1], s[2], s[3], s[4], 0, 2), s[4]);
            CHECKS.dueHex(call + " sealed", x, 5, want);
        }
    }

    private static void tagOfEachSize() {
        for (int n = 4; n <= 128; n++) {
            int[] sizes = {0, 1, 1, 8, n};
            SlowSeal x = Samples.filled(sizes, 4);
            Model model = Samples.filledModel(sizes, 4);
            model.tag(7);
            CHECKS.due("tag of " + n, x.tag(7), n);
            CHECKS.dueBytes("tag of " + n, x, 7, model.bytes(7));
        }
    }

    private static void tagOfNothingIsRefused() {
        SlowSeal x = Samples.ready();
        for (int r = 0; r < 8; r++) {
            CHECKS.due("tag(" + r + ")", x.tag(r), SlowSeal.REFUSED);
        }
        x.begin(3, 1, 1, 8, 4, 0, 1, -1, -1);
        CHECKS.due("tag(0) after a begin that is BAD", x.tag(0), SlowSeal.REFUSED);
        x.seal(0, 0, 1, 1, 7, 4, 0, 1);
        CHECKS.due("tag(0) after a seal that is BAD", x.tag(0), SlowSeal.REFUSED);
    }

    private static void tagAfterBeginIsRefused() {
        for (int lanes = 1; lanes <= 4; lanes++) {
            SlowSeal x = Samples.filled(new int[] {0, lanes, 1, 128, 4}, 0);
            CHECKS.due("tag(0) of " + lanes + " lanes", x.tag(0), SlowSeal.REFUSED);
        }
    }

    private static void tagBeforeTheEndIsRefused() {
        for (int lanes = 1; lanes <= 4; lanes++) {
            for (int passes = 1; passes <= 5; passes++) {
                SlowSeal x = Samples.filled(new int[] {2, lanes, passes, 32, 9}, 0);
                for (int done = 1; done < 4 * lanes * passes; done++) {
                    x.fill(1);
                    CHECKS.due("tag(0) after " + done + " segments", x.tag(0), SlowSeal.REFUSED);
                }
                x.fill(1);
                CHECKS.due("tag(0) after all segments", x.tag(0), 9);
            }
        }
    }

    private static void tagThatIsRefusedChangesNothing() {
        SlowSeal x = Samples.ready();
        x.tag(0);
        CHECKS.dueBytes("register 0", x, 0, Samples.readyModel().bytes(0));
        int[] sizes = {1, 2, 1, 16, 20};
        SlowSeal begun = Samples.filled(sizes, 7);
        Model model = Samples.filledModel(sizes, 8);
        for (int r = 0; r < 8; r++) {
            begun.tag(r);
            CHECKS.dueBytes("register " + r, begun, r, Samples.readyModel().bytes(r));
        }
        CHECKS.due("told(4)", begun.told(4), 7);
        begun.fill(1);
        begun.tag(0);
        model.tag(0);
        CHECKS.dueBytes("the tag then", begun, 0, model.bytes(0));
    }

    private static void tagToNoRegisterIsBad() {
        SlowSeal x = Samples.filled(new int[] {1, 2, 1, 16, 20}, 8);
        for (int r : Samples.NO_REGISTERS) {
            CHECKS.due("tag(" + r + ")", x.tag(r), SlowSeal.BAD);
        }
        CHECKS.due("tag(7)", x.tag(7), 20);
        CHECKS.due("tag(0)", x.tag(0), 20);
    }

    private static void tagToNoRegisterBeforeTheEndIsBad() {
        SlowSeal x = Samples.ready();
        SlowSeal begun = Samples.filled(new int[] {1, 2, 1, 16, 20}, 7);
        for (int r : Samples.NO_REGISTERS) {
            CHECKS.due("tag(" + r + ") of nothing", x.tag(r), SlowSeal.BAD);
            CHECKS.due("tag(" + r + ") before the end", begun.tag(r), SlowSeal.BAD);
        }
    }

    private static void tagThatIsBadChangesNothing() {
        SlowSeal x = Samples.filled(new int[] {1, 2, 1, 16, 20}, 8);
        for (int r : Samples.NO_REGISTERS) {
            x.tag(r);
        }
        for (int r = 0; r < 8; r++) {
            CHECKS.dueBytes("register " + r, x, r, Samples.readyModel().bytes(r));
        }
        CHECKS.due("told(4)", x.told(4), 8);
    }

    private static void tagOfEachNumberOfLanes() {
        for (int lanes = 1; lanes <= 4; lanes++) {
            for (int memory : new int[] {8 * lanes, 12 * lanes - 1, 128}) {
                int[] sizes = {2, lanes, 1, memory, 64};
                SlowSeal x = Samples.filled(sizes, 4 * lanes);
                Model model = Samples.filledModel(sizes, 4 * lanes);
                x.tag(7);
                model.tag(7);
                CHECKS.dueBytes("tag of " + lanes + " lanes, memory " + memory, x, 7, model.bytes(7));
            }
        }
    }

    private static void tagReplaces() {
        SlowSeal x = Samples.filled(new int[] {0, 1, 1, 8, 4}, 4);
        Samples.put(x, 7, Samples.rising(0, 200));
        CHECKS.due("tag onto 200 bytes", x.tag(7), 4);
        CHECKS.due("its size", x.size(7), 4);
        CHECKS.due("behind it", x.at(7, 4), SlowSeal.NONE);
        x.clear(6);
        CHECKS.due("tag onto none", x.tag(6), 4);
        CHECKS.due("its size", x.size(6), 4);
    }

    private static void tagToEachRegister() {
        int[] sizes = {0, 1, 1, 8, 33};
        Model model = Samples.filledModel(sizes, 4);
        model.tag(7);
        for (int r = 0; r < 8; r++) {
            SlowSeal x = Samples.filled(sizes, 4);
            CHECKS.due("tag(" + r + ")", x.tag(r), 33);
            CHECKS.dueBytes("tag(" + r + ")", x, r, model.bytes(7));
        }
    }

    private static void tagAgain() {
        int[] sizes = {2, 2, 2, 20, 70};
        SlowSeal x = Samples.filled(sizes, 16);
        Model model = Samples.filledModel(sizes, 16);
        model.tag(7);
        for (int r = 0; r < 3; r++) {
            CHECKS.due("tag(" + r + ")", x.tag(r), 70);
            CHECKS.dueBytes("tag(" + r + ")", x, r, model.bytes(7));
        }
        CHECKS.due("told(4)", x.told(4), 16);
        CHECKS.due("told(6)", x.told(6), 70);
        for (int block = 0; block < 16; block++) {
            CHECKS.due("word(" + block + ", 1)", x.word(block, 1), model.word(block, 1));
        }
    }

    private static void tagLeavesOthers() {
        for (int to = 0; to < 8; to++) {
            SlowSeal x = Samples.filled(new int[] {0, 1, 1, 8, 128}, 4);
            x.tag(to);
            for (int r = 0; r < 8; r++) {
                if (r != to) {
                    CHECKS.dueBytes("register " + r, x, r, Samples.readyModel().bytes(r));
                }
            }
        }
    }

    private static void tagAfterAnotherBegin() {
        int[] sizes = {0, 1, 1, 8, 4};
        SlowSeal x = Samples.filled(sizes, 4);
        CHECKS.due("tag(7)", x.tag(7), 4);
        Samples.beginOf(x, sizes);
        CHECKS.due("tag(7) after begin", x.tag(7), SlowSeal.REFUSED);
        x.fill(4);
        CHECKS.due("tag(7) after fill", x.tag(7), 4);
        x.begin(0, 1, 1, 7, 4, 0, 1, -1, -1);
        CHECKS.due("tag(7) after a begin that is BAD", x.tag(7), 4);
    }
}

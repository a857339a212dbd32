import java.util.Arrays;

/**
 * The tests of one promise, one for each of its sentences; counts answers that are not the ones
 * due, and tells them under the name of the promise and the sentence.
 */
final class Checks {
    private static final int TOLD_OF_A_TEST = 5;

    private final String promise;
    private String sentence = "";
    private int wrongBefore = 0;
    private int tests = 0;
    private int broken = 0;
    private int asked = 0;
    private int wrong = 0;

    Checks(String promise) {
        this.promise = promise;
    }

    /** A test that asks nothing is broken too, and so is one that ends by throwing. */
    void test(String itsSentence, Runnable body) {
        sentence = itsSentence;
        int askedBefore = asked;
        wrongBefore = wrong;
        try {
            body.run();
        } catch (RuntimeException | StackOverflowError thrown) {
            tellWrong("threw " + thrown);
        }
        if (asked == askedBefore) {
            tellWrong("nothing was asked");
        }
        tests++;
        if (wrong != wrongBefore) {
            broken++;
            System.out.println("BROKEN " + promise + ": " + sentence + " (" + (wrong - wrongBefore) + " wrong)");
        }
    }

    void due(String call, long got, long want) {
        asked++;
        if (got != want) {
            tellWrong(call + " answered " + got + ", due is " + want);
        }
    }

    void dueTrue(String what, boolean is) {
        asked++;
        if (!is) {
            tellWrong("it does not hold: " + what);
        }
    }

    void dueBytes(String call, SlowSeal seal, int r, byte[] want) {
        asked++;
        byte[] got = Samples.bytesIn(seal, r);
        if (!Arrays.equals(got, want)) {
            tellWrong(call + " gave " + Samples.hex(got) + ", due is " + Samples.hex(want));
        }
    }

    void dueHex(String call, SlowSeal seal, int r, String want) {
        dueBytes(call, seal, r, Samples.unhex(want));
    }

    void end() {
        System.out.println(promise + ": " + tests + " tests, " + broken + " broken; " + asked
            + " answers, " + wrong + " not as due");
        if (broken != 0 || tests == 0) {
            System.exit(1);
        }
    }

    /** The first few are told, for one fault can make all later answers wrong. */
    private void tellWrong(String what) {
        wrong++;
        if (wrong - wrongBefore > TOLD_OF_A_TEST) {
            return;
        }
        System.out.println(promise + ": " + sentence + ": " + what);
    }
}

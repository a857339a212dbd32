/** How SlowSeal is used, as README.md shows it. */
public final class Example {
    public static void main(String[] args) {
        SlowSeal seal = new SlowSeal();
        seal.add(0, 8, 0x64726f7773736170L); // register 0: "password", the lowest byte first
        seal.add(1, 8, 0x746c617374736574L); // register 1: "testsalt"

        // All at once, to register 2: kind 2, 1 lane, 2 passes, 128 blocks, a tag of 24 bytes.
        System.out.println("seal: " + seal.seal(2, 2, 1, 2, 128, 24, 0, 1) + " bytes");
        System.out.println(hex(seal, 2));

        // The same in steps, without secret and data, each segment looked at.
        int blocks = seal.begin(2, 1, 2, 128, 24, 0, 1, SlowSeal.NONE, SlowSeal.NONE);
        System.out.println("tag too early: " + (seal.tag(3) == SlowSeal.REFUSED ? "REFUSED" : "given"));
        while (seal.fill(1) == 1) {
            System.out.println(seal.told(4) + " of " + seal.told(5) + " segments, word 0 of the last block: "
                + Long.toHexString(seal.word(blocks - 1, 0)));
        }
        seal.tag(3);
        System.out.println(hex(seal, 3));

        // Hashes of register 0: of 32 bytes without a key, of 8 with register 1 as key, and a longer one.
        seal.hash(4, 0, SlowSeal.NONE, 32);
        System.out.println(hex(seal, 4));
        seal.hash(4, 0, 1, 8);
        System.out.println(hex(seal, 4));
        seal.longHash(4, 0, 72);
        System.out.println(hex(seal, 4));
    }

    private static String hex(SlowSeal seal, int r) {
        StringBuilder text = new StringBuilder();
        for (int i = 0; i < seal.size(r); i++) {
            text.append(String.format("%02x", seal.at(r, i)));
        }
        return text.toString();
    }
}

import java.math.BigInteger;

/** Seeds by which the word of a wished CHANCE is a wished one: the word's steps are gone backwards. */
final class Seeds {
    private static final BigInteger WORDS = BigInteger.ONE.shiftLeft(64);
    private static final BigInteger TIMES = new BigInteger("6364136223846793005");
    private static final BigInteger PLUS = new BigInteger("1442695040888963407");
    private static final BigInteger SEED_TIMES = new BigInteger("2862933555777941757");
    private static final BigInteger TIMES_BACK = TIMES.modInverse(WORDS);
    private static final BigInteger SEED_TIMES_BACK = SEED_TIMES.modInverse(WORDS);

    private Seeds() {
    }

    /** The seed by which draw(kind, size) has this word after so many CHANCES; after none it begins with it. */
    static long withWord(int kind, int size, int chances, long word) {
        BigInteger before = BigInteger.valueOf(word);
        for (int i = 0; i < chances; i++) {
            before = before.subtract(PLUS).multiply(TIMES_BACK).mod(WORDS);
        }
        return before.subtract(BigInteger.valueOf(size)).multiply(SEED_TIMES_BACK).mod(WORDS).longValue() ^ kind;
    }

    /** A seed by which the highest 31 bits are these at that CHANCE (from 1); each variant has other lower bits. */
    static long withBits(int kind, int size, int chance, int bits, int variant) {
        return withWord(kind, size, chance, ((long) bits << 33) | variant);
    }

    /** The highest 31 bits that the seed has at that CHANCE (from 1). */
    static int bitsAt(long seed, int kind, int size, int chance) {
        BigInteger word = BigInteger.valueOf(seed ^ kind).multiply(SEED_TIMES).add(BigInteger.valueOf(size));
        for (int i = 0; i < chance; i++) {
            word = word.multiply(TIMES).add(PLUS).mod(WORDS);
        }
        return word.shiftRight(33).intValue();
    }
}

import java.util.NoSuchElementException;

/**
 * Finds which of many patterns a word of bits is. No two patterns can be of the same word; that
 * is what makes counting the free words a plain subtraction.
 */
public final class PatternTree {
    private static final int MOST_PATTERNS = 512;
    private static final int MOST_BITS = 64;
    private static final int FIRST_LENGTH = 32;

    /** A long from 0 on has at most so many digits to the base of three. */
    private static final int MOST_SIGNS = 40;
    private static final int SIGN_BASE = 3;
    private static final int ONE_SIGN = 1;
    private static final int OPEN_SIGN = 2;

    private static final int NONE = -1;

    private final long[] cares;
    private final long[] wants;
    private int size;
    private int length;
    private long mask;
    private int clash;
    private int surplus;

    public PatternTree() {
        cares = new long[MOST_PATTERNS];
        wants = new long[MOST_PATTERNS];
        size = 0;
        length = FIRST_LENGTH;
        mask = lowestBits(FIRST_LENGTH);
        clash = NONE;
        surplus = 0;
    }

    public void clear(int n) throws IllegalArgumentException {
        if (n < 1 || n > MOST_BITS) {
            throw new IllegalArgumentException("a length is 1 to 64 bits");
        }
        size = 0;
        length = n;
        mask = lowestBits(n);
    }

    public int add(long care, long want) throws IllegalArgumentException, IllegalStateException {
        refuseStrayWant(care, want);
        return append(care & mask, want & mask);
    }

    public int signs(long digits) throws IllegalArgumentException, IllegalStateException {
        if (digits < 0) {
            throw new IllegalArgumentException("the digits are below 0");
        }
        long care = 0;
        long want = 0;
        long left = digits;
        for (int at = 0; at < MOST_SIGNS; at++) {
            long sign = left % SIGN_BASE;
            if (sign != OPEN_SIGN) {
                care |= 1L << at;
            }
            if (sign == ONE_SIGN) {
                want |= 1L << at;
            }
            left /= SIGN_BASE;
        }
        return append(care & mask, want & mask);
    }

    public void drop(int i) throws NoSuchElementException {
        refuseAbsent(i);
        for (int at = i + 1; at < size; at++) {
            cares[at - 1] = cares[at];
            wants[at - 1] = wants[at];
        }
        size--;
    }

    public int decode(long word) {
        int found = NONE;
        // Goes on behind the first one, for count(3) tells whether there was ever another.
        for (int i = 0; i < size; i++) {
            if (sharesWord(i, mask, word & mask)) {
                if (found == NONE) {
                    found = i;
                } else {
                    surplus++;
                }
            }
        }
        return found;
    }

    public int meets(long care, long want) throws IllegalArgumentException {
        refuseStrayWant(care, want);
        return firstSharing(care & mask, want & mask);
    }

    public long free(long care, long want) throws IllegalArgumentException {
        refuseStrayWant(care, want);
        return freeWords(care & mask, want & mask);
    }

    public long next(long word) throws NoSuchElementException {
        long from = word & mask;
        if (firstSharing(mask, from) == NONE) {
            return from;
        }
        // A greater word is as this one down to some bit that is 0 here and 1 there; the lower
        // that bit, the less the word. Going up word by word could take 2^64 steps.
        for (int at = 0; at < length; at++) {
            long raised = (from | 1L << at) & bitsFrom(at);
            if ((from >>> at & 1L) == 0 && freeWords(bitsFrom(at), raised) != 0) {
                return leastFree(at, raised);
            }
        }
        throw new NoSuchElementException("no free word from this one on");
    }

    public long told(int i, int what) throws IllegalArgumentException, NoSuchElementException {
        if (what < 0 || what > 2) {
            throw new IllegalArgumentException("what is 0, 1 or 2");
        }
        refuseAbsent(i);
        if (what == 0) {
            return cares[i];
        }
        if (what == 1) {
            return wants[i];
        }
        return length - Long.bitCount(cares[i]);
    }

    public int count(int what) {
        switch (what) {
            case 0:
                return size;
            case 1:
                return length;
            case 2:
                return clash;
            case 3:
                return surplus;
            default:
                return NONE;
        }
    }

    private void refuseStrayWant(long care, long want) throws IllegalArgumentException {
        if ((want & ~care & mask) != 0) {
            throw new IllegalArgumentException("want is 1 where care is not");
        }
    }

    private void refuseAbsent(int i) throws NoSuchElementException {
        if (i < 0 || i >= size) {
            throw new NoSuchElementException("no pattern of this number");
        }
    }

    private int append(long care, long want) throws IllegalStateException {
        if (size >= MOST_PATTERNS) {
            clash = NONE;
            throw new IllegalStateException("512 patterns are there");
        }
        int other = firstSharing(care, want);
        if (other != NONE) {
            clash = other;
            throw new IllegalStateException("clashes with a pattern");
        }
        cares[size] = care;
        wants[size] = want;
        size++;
        return size - 1;
    }

    private int firstSharing(long care, long want) {
        for (int i = 0; i < size; i++) {
            if (sharesWord(i, care, want)) {
                return i;
            }
        }
        return NONE;
    }

    /** Only a bit that both tell, and tell differently, keeps two patterns apart. */
    private boolean sharesWord(int i, long care, long want) {
        return (cares[i] & care & (wants[i] ^ want)) == 0;
    }

    /**
     * Right modulo 2^64 though the steps wrap around: no two patterns share a word, so none is
     * taken away twice.
     */
    private long freeWords(long care, long want) {
        long left = wordsOf(care);
        for (int i = 0; i < size; i++) {
            if (sharesWord(i, care, want)) {
                left -= wordsOf(cares[i] | care);
            }
        }
        return left;
    }

    /** Needs a free word among those that are as the start from the given bit on. */
    private long leastFree(int top, long start) {
        long least = start;
        for (int at = top - 1; at >= 0; at--) {
            if (freeWords(bitsFrom(at), least) == 0) {
                least |= 1L << at;
            }
        }
        return least;
    }

    /** How many words fit so many told bits; 2^64 as 0, which a shift alone would make 1. */
    private long wordsOf(long care) {
        int open = length - Long.bitCount(care);
        return open >= MOST_BITS ? 0 : 1L << open;
    }

    private long bitsFrom(int at) {
        return mask & -1L << at;
    }

    private static long lowestBits(int n) {
        return -1L >>> (MOST_BITS - n);
    }
}

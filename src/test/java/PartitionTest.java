import java.math.BigInteger;
import java.util.ArrayList;
import java.util.List;
import java.util.Random;

/**
 * All words are cut into regions, by splitting one after another in a random bit; some regions
 * come as patterns, so the others hold just the free words. Unlike in ModelTest the patterns tell
 * many bits of many lengths, and what is due comes from the free regions.
 */
public final class PartitionTest {
    private static final int RUNS = 1500;
    private static final int MOST_REGIONS = 400;
    private static final int QUESTIONS = 50;
    private static final Check check = new Check();

    private record Region(long care, long want) {
        boolean has(long word) {
            return (word & care) == want;
        }

        /** The word that is 1 only where one of both wants it is of both if any is. */
        boolean shares(Region other) {
            return has(want | other.want) && other.has(want | other.want);
        }
    }

    private final int seed;
    private final Random random;
    private final int length;
    private final long mask;
    private final PatternTree tree = new PatternTree();
    private final List<Region> patterns = new ArrayList<>();
    private final List<Region> free = new ArrayList<>();

    public static void main(String[] args) {
        for (int seed = 0; seed < RUNS && !check.failed(); seed++) {
            new PartitionTest(seed).run();
        }
        check.end("PartitionTest");
    }

    private PartitionTest(int seed) {
        this.seed = seed;
        this.random = new Random(seed);
        this.length = random.nextInt(3) == 0 ? 64 : 1 + random.nextInt(64);
        this.mask = length == 64 ? -1 : (1L << length) - 1;
    }

    private void run() {
        check.refuses(name("clear"), Check.NOTHING, () -> tree.clear(length));
        int patternsOfTen = random.nextInt(11);
        for (Region one : split(1 + random.nextInt(random.nextBoolean() ? MOST_REGIONS : 12))) {
            if (random.nextInt(10) < patternsOfTen) {
                come(one);
            } else {
                free.add(one);
            }
        }
        for (int i = 0; i < QUESTIONS; i++) {
            ask(random.nextInt(5));
        }
        check.answers(name("count(3)"), 0, () -> tree.count(3));
    }

    private List<Region> split(int regions) {
        List<Region> all = new ArrayList<>();
        all.add(new Region(0, 0));
        for (int i = 1; i < regions; i++) {
            int at = random.nextInt(all.size());
            Region one = all.get(at);
            long bit = 1L << random.nextInt(length);
            if ((one.care & bit) == 0) {
                all.set(at, new Region(one.care | bit, one.want));
                all.add(random.nextInt(all.size() + 1), new Region(one.care | bit, one.want | bit));
            }
        }
        return all;
    }

    private void come(Region one) {
        boolean bySigns = length < 40 && random.nextBoolean();
        check.answers(name("coming of " + one), patterns.size(),
                () -> bySigns ? tree.signs(digitsOf(one)) : tree.add(one.care, one.want));
        patterns.add(one);
    }

    private long digitsOf(Region one) {
        StringBuilder signs = new StringBuilder();
        for (int at = length - 1; at >= 0; at--) {
            boolean open = (one.care >>> at & 1) == 0;
            signs.append(open ? 2 : one.want >>> at & 1);
        }
        return Long.parseLong(signs.toString(), 3);
    }

    private void ask(int which) {
        switch (which) {
            case 0 -> {
                long word = someWord();
                check.answers(name("decode(" + word + ")"), holderOf(word), () -> tree.decode(word));
            }
            case 1 -> {
                Region one = someRegion();
                check.answers(name("meets " + one), firstSharing(one), () -> tree.meets(one.care, one.want));
            }
            case 2 -> {
                Region one = someRegion();
                check.answers(name("free " + one), freeWords(one), () -> tree.free(one.care, one.want));
            }
            case 3 -> askNext(someWord());
            default -> dropSome();
        }
    }

    private void dropSome() {
        if (patterns.isEmpty()) {
            check.refuses(name("drop of none"), Check.NOT_THERE, () -> tree.drop(0));
            return;
        }
        int i = random.nextInt(patterns.size());
        check.refuses(name("drop(" + i + ")"), Check.NOTHING, () -> tree.drop(i));
        free.add(patterns.remove(i));
    }

    private void askNext(long word) {
        String call = name("next(" + word + ")");
        Long due = null;
        for (Region one : free) {
            Long least = leastFrom(word & mask, one);
            if (least != null && (due == null || Long.compareUnsigned(least, due) < 0)) {
                due = least;
            }
        }
        if (due == null) {
            check.refuses(call, Check.NOT_THERE, () -> tree.next(word));
        } else {
            check.answers(call, due, () -> tree.next(word));
        }
    }

    /** As the word down to a bit that is raised, the lower the better, and 0 below where it may. */
    private Long leastFrom(long word, Region one) {
        if (one.has(word)) {
            return word;
        }
        for (int at = 0; at < length; at++) {
            long bit = 1L << at;
            long raised = (word & -bit | bit) | one.want & (bit - 1);
            if ((word & bit) == 0 && one.has(raised)) {
                return raised;
            }
        }
        return null;
    }

    private int holderOf(long word) {
        for (int i = 0; i < patterns.size(); i++) {
            if (patterns.get(i).has(word & mask)) {
                return i;
            }
        }
        return -1;
    }

    private int firstSharing(Region one) {
        for (int i = 0; i < patterns.size(); i++) {
            if (patterns.get(i).shares(one)) {
                return i;
            }
        }
        return -1;
    }

    private long freeWords(Region asked) {
        BigInteger words = BigInteger.ZERO;
        for (Region one : free) {
            if (one.shares(asked)) {
                words = words.add(BigInteger.ONE.shiftLeft(length - Long.bitCount(one.care | asked.care)));
            }
        }
        return words.longValue();
    }

    /** Often at the edge of a region, and with bits beyond the length. */
    private long someWord() {
        List<Region> some = random.nextBoolean() ? patterns : free;
        if (some.isEmpty() || random.nextInt(4) == 0) {
            return random.nextInt(3) > 0 ? random.nextLong() : random.nextInt(5) - 2;
        }
        Region one = some.get(random.nextInt(some.size()));
        long open = new long[] {0, -1, random.nextLong()}[random.nextInt(3)];
        return one.want | open & ~one.care;
    }

    private Region someRegion() {
        long care = mask;
        for (int i = random.nextInt(6); i >= 0; i--) {
            care &= random.nextLong();
        }
        return new Region(care, someWord() & care);
    }

    private String name(String call) {
        return "seed " + seed + ", length " + length + ", " + patterns.size() + " patterns: " + call;
    }
}

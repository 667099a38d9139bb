import java.util.ArrayList;
import java.util.List;
import java.util.Random;

/**
 * Random runs of at most 512 calls beside a model that looks at every word. For lengths up to 64
 * the patterns tell only a few chosen bits, so that the model can still look at every choice.
 */
public final class ModelTest {
    private static final int RUNS = 3000;
    private static final int MOST_CALLS = 500;
    private static final Check check = new Check();

    public static void main(String[] args) {
        for (int seed = 0; seed < RUNS && !check.failed(); seed++) {
            new ModelTest(seed).run();
        }
        check.end("ModelTest");
    }

    private final int seed;
    private final Random random;
    private final PatternTree tree = new PatternTree();
    private final List<long[]> model = new ArrayList<>();
    private int length = 32;
    private int[] spots;
    private int clash = -1;

    private ModelTest(int seed) {
        this.seed = seed;
        this.random = new Random(seed);
        chooseSpots();
    }

    private void run() {
        int calls = 1 + random.nextInt(MOST_CALLS);
        if (random.nextInt(8) > 0) {
            clear();
        }
        for (int i = 0; i < calls && !check.failed(); i++) {
            step(random.nextInt(100));
        }
    }

    private void step(int dice) {
        if (dice < 40) {
            add();
        } else if (dice < 50) {
            signs();
        } else if (dice < 58) {
            drop();
        } else if (dice < 66) {
            decode();
        } else if (dice < 74) {
            meets();
        } else if (dice < 82) {
            free();
        } else if (dice < 91) {
            next();
        } else if (dice < 95) {
            told();
        } else if (dice < 99 || random.nextInt(6) > 0) {
            count();
        } else {
            clear();
        }
    }

    private void chooseSpots() {
        List<Integer> all = new ArrayList<>();
        for (int i = 0; i < length; i++) {
            all.add(i);
        }
        spots = new int[Math.min(length, 1 + random.nextInt(8))];
        for (int i = 0; i < spots.length; i++) {
            spots[i] = all.remove(random.nextInt(all.size()));
        }
    }

    private void clear() {
        int n = random.nextInt(20) == 0 ? random.nextInt(140) - 70 : 1 + random.nextInt(64);
        if (random.nextInt(3) == 0) {
            n = new int[] {1, 2, 8, 40, 41, 63, 64}[random.nextInt(7)];
        }
        int asked = n;
        boolean good = n >= 1 && n <= 64;
        check.refuses(name("clear(" + n + ")"), good ? Check.NOTHING : Check.BAD, () -> tree.clear(asked));
        if (good) {
            length = n;
            model.clear();
            chooseSpots();
        }
    }

    private void add() {
        long care = someCare();
        long want = someWant(care);
        expect("add(" + care + ", " + want + ")", dueOfAdd(care, want), () -> tree.add(care, want));
    }

    private void signs() {
        // With more bits, a number that leaves all bits beside the spots open is too great a long.
        if (length > 39) {
            expect("signs(-3)", Check.BAD, () -> tree.signs(-3));
            return;
        }
        long care = onSpots();
        long want = random.nextLong() & care;
        long digits = 0;
        for (int at = length - 1; at >= 0; at--) {
            digits = digits * 3 + ((care >>> at & 1) == 0 ? 2 : want >>> at & 1);
        }
        long asked = digits;
        expect("signs(" + digits + ")", dueOfAdd(care, want), () -> tree.signs(asked));
    }

    private void drop() {
        int i = someNumber();
        boolean there = i >= 0 && i < model.size();
        check.refuses(name("drop(" + i + ")"), there ? Check.NOTHING : Check.NOT_THERE, () -> tree.drop(i));
        if (there) {
            model.remove(i);
        }
    }

    private void decode() {
        long word = random.nextLong();
        expect("decode(" + word + ")", "" + holderOf(word), () -> tree.decode(word));
    }

    private void meets() {
        long care = someCare();
        long want = someWant(care);
        String due = stray(care, want) ? Check.BAD : "" + firstSharing(care, want);
        expect("meets(" + care + ", " + want + ")", due, () -> tree.meets(care, want));
    }

    private void free() {
        long care = someCare();
        long want = someWant(care);
        String due = stray(care, want) ? Check.BAD : "" + freeWords(care, want);
        expect("free(" + care + ", " + want + ")", due, () -> tree.free(care, want));
    }

    private void next() {
        long word = random.nextInt(3) > 0 ? random.nextLong() : random.nextInt(9) - 4;
        expect("next(" + word + ")", dueOfNext(word & mask()), () -> tree.next(word));
    }

    private void told() {
        int i = someNumber();
        int what = random.nextInt(5) - 1;
        String due;
        if (what < 0 || what > 2) {
            due = Check.BAD;
        } else if (i < 0 || i >= model.size()) {
            due = Check.NOT_THERE;
        } else {
            due = "" + (what < 2 ? model.get(i)[what] : length - Long.bitCount(model.get(i)[0]));
        }
        expect("told(" + i + ", " + what + ")", due, () -> tree.told(i, what));
    }

    private void count() {
        int what = random.nextInt(6) - 1;
        int[] due = {-1, model.size(), length, clash, 0, -1};
        expect("count(" + what + ")", "" + due[what + 1], () -> tree.count(what));
    }

    private void expect(String call, String due, Check.Call made) {
        String got;
        try {
            got = "" + made.run();
        } catch (RuntimeException e) {
            got = e.getClass().getSimpleName();
        }
        check.same(name(call), due, got);
    }

    private String name(String call) {
        return "seed " + seed + ", length " + length + ", " + model.size() + " patterns: " + call;
    }

    private long mask() {
        return length == 64 ? -1 : (1L << length) - 1;
    }

    private long onSpots() {
        long care = 0;
        for (int at : spots) {
            care |= (random.nextInt(4) > 0 ? 1L : 0L) << at;
        }
        return care;
    }

    /** Now and then with bits beyond the length, which must not count. */
    private long someCare() {
        return onSpots() | (random.nextBoolean() ? random.nextLong() & ~mask() : 0);
    }

    private long someWant(long care) {
        long want = random.nextLong() & (care | ~mask());
        return random.nextInt(12) == 0 ? want | 1L << random.nextInt(64) : want;
    }

    private int someNumber() {
        return random.nextInt(model.size() + 3) - 1;
    }

    private boolean stray(long care, long want) {
        return (mask() & want & ~care) != 0;
    }

    private String dueOfAdd(long care, long want) {
        if (stray(care, want)) {
            return Check.BAD;
        }
        int other = firstSharing(care, want);
        if (other >= 0) {
            clash = other;
            return Check.REFUSED;
        }
        model.add(new long[] {care & mask(), want & mask()});
        return "" + (model.size() - 1);
    }

    private static boolean fits(long word, long care, long want) {
        return (word & care) == (want & care);
    }

    private int holderOf(long word) {
        for (int i = 0; i < model.size(); i++) {
            if (fits(word, model.get(i)[0], model.get(i)[1])) {
                return i;
            }
        }
        return -1;
    }

    /** The word that has the bits of the choice on the spots, and 0 elsewhere. */
    private long spread(int choice) {
        long word = 0;
        for (int i = 0; i < spots.length; i++) {
            word |= (long) (choice >> i & 1) << spots[i];
        }
        return word;
    }

    private int firstSharing(long care, long want) {
        for (int i = 0; i < model.size(); i++) {
            for (int choice = 0; choice < 1 << spots.length; choice++) {
                long word = spread(choice);
                long[] it = model.get(i);
                if (fits(word, it[0], it[1]) && fits(word, care & mask(), want & mask())) {
                    return i;
                }
            }
        }
        return -1;
    }

    private long freeWords(long care, long want) {
        long choices = 0;
        for (int choice = 0; choice < 1 << spots.length; choice++) {
            long word = spread(choice);
            if (fits(word, care & mask(), want & mask()) && holderOf(word) < 0) {
                choices++;
            }
        }
        int beside = length - spots.length;
        return choices << beside;
    }

    private String dueOfNext(long from) {
        long all = spread(-1);
        boolean found = false;
        long least = 0;
        for (int choice = 0; choice < 1 << spots.length; choice++) {
            long word = spread(choice);
            if (holderOf(word) >= 0) {
                continue;
            }
            for (int at = -1; at < length; at++) {
                long candidate = raise(from, at, all, word);
                boolean right = (candidate & all) == word && Long.compareUnsigned(candidate, from) >= 0;
                if (right && (!found || Long.compareUnsigned(candidate, least) < 0)) {
                    found = true;
                    least = candidate;
                }
            }
        }
        return found ? "" + least : Check.NOT_THERE;
    }

    /** As from above the bit, 1 in it, and below it the least that the told bits leave. */
    private static long raise(long from, int at, long told, long word) {
        if (at < 0) {
            return from;
        }
        long below = (1L << at) - 1;
        return from & ~below | 1L << at | word & told & below;
    }
}

/**
 * The refused calls of each promise, in several states, and what they leave unchanged: the object
 * is compared with a twin that was never asked for the refused call.
 */
public final class RefusalTest {
    private static final long TOP = Long.MIN_VALUE;
    private static final Check check = new Check();

    private interface Made {
        PatternTree make();
    }

    private interface Use {
        void on(PatternTree x);
    }

    private final String state;
    private final Made made;

    private RefusalTest(String state, Made made) {
        this.state = state;
        this.made = made;
    }

    public static void main(String[] args) {
        RefusalTest fresh = new RefusalTest("new", PatternTree::new);
        fresh.badInEveryState();
        fresh.numbersNotThere(0);

        RefusalTest three = new RefusalTest("three", RefusalTest::threeAfterClash);
        three.badInEveryState();
        three.numbersNotThere(3);
        three.clashesOfThree();
        three.wordsNotThere(15);

        RefusalTest least = new RefusalTest("one bit, all taken", RefusalTest::leastAllTaken);
        least.badInEveryState();
        least.numbersNotThere(2);
        least.clashesWithAll();
        least.wordsNotThere(0, 1, 2, -1);

        RefusalTest greatest = new RefusalTest("64 bits, all taken", RefusalTest::greatestAllTaken);
        greatest.badInEveryState();
        greatest.numbersNotThere(2);
        greatest.clashesWithAll();
        greatest.wordsNotThere(0, 1, Long.MAX_VALUE, TOP, -1);

        // A full object has had its 512 promised calls; that it is full can show nowhere else.
        RefusalTest full = new RefusalTest("full", RefusalTest::fullAfterClash);
        full.badInEveryState();
        full.numbersNotThere(512);
        full.fullOnes();
        check.end("RefusalTest");
    }

    /** The clash is with 1, so that both a new number and -1 would show. */
    private static PatternTree threeAfterClash() {
        PatternTree x = Trees.ofThree();
        Check.thrownBy(() -> x.add(0b1111, 0b0100));
        return x;
    }

    private static PatternTree leastAllTaken() {
        PatternTree x = Trees.ofLength(1);
        x.add(1, 1);
        x.add(1, 0);
        Check.thrownBy(() -> x.add(1, 0));
        return x;
    }

    private static PatternTree greatestAllTaken() {
        PatternTree x = Trees.ofLength(64);
        x.add(TOP, TOP);
        x.add(TOP, 0);
        Check.thrownBy(() -> x.add(-1, 0));
        return x;
    }

    private static PatternTree fullAfterClash() {
        PatternTree x = Trees.ofLength(10);
        for (int i = 0; i < 511; i++) {
            x.add(0x3ff, i);
        }
        Check.thrownBy(() -> x.add(0x3ff, 1));
        x.add(0x3ff, 511);
        return x;
    }

    private void badInEveryState() {
        for (int n : new int[] {0, -1, 65, 1 << 16 | 8, Integer.MIN_VALUE, Integer.MAX_VALUE}) {
            unchanged("2: clear(" + n + ")", Check.BAD, x -> x.clear(n));
        }
        for (long care : new long[] {0, ~1L, TOP}) {
            String stray = "(" + care + ", 1)";
            unchanged("3: add" + stray, Check.BAD, x -> x.add(care, 1));
            unchanged("7: meets" + stray, Check.BAD, x -> x.meets(care, 1));
            unchanged("8: free" + stray, Check.BAD, x -> x.free(care, 1));
        }
        for (long digits : new long[] {-1, -2, -3, TOP}) {
            unchanged("4: signs(" + digits + ")", Check.BAD, x -> x.signs(digits));
        }
        for (int what : new int[] {-1, 3, Integer.MIN_VALUE, Integer.MAX_VALUE}) {
            for (int i : new int[] {-1, 0, 512}) {
                unchanged("10: told(" + i + ", " + what + ")", Check.BAD, x -> x.told(i, what));
            }
        }
    }

    private void numbersNotThere(int patterns) {
        for (int i : new int[] {patterns, patterns + 1, -1, Integer.MIN_VALUE, Integer.MAX_VALUE}) {
            unchanged("5: drop(" + i + ")", Check.NOT_THERE, x -> x.drop(i));
            for (int what = 0; what < 3; what++) {
                int asked = what;
                unchanged("10: told(" + i + ", " + what + ")", Check.NOT_THERE, x -> x.told(i, asked));
            }
        }
    }

    private void wordsNotThere(long... words) {
        for (long word : words) {
            unchanged("9: next(" + word + ")", Check.NOT_THERE, x -> x.next(word));
        }
    }

    private void clashesOfThree() {
        clashAlone("3: add(0, 0)", 0, x -> x.add(0, 0));
        clashAlone("3: add(4, 4)", 1, x -> x.add(4, 4));
        clashAlone("3: add(8, 8)", 2, x -> x.add(8, 8));
        clashAlone("4: signs(2222)", 0, x -> x.signs(Trees.signsOf("2222")));
        clashAlone("4: signs(2122)", 1, x -> x.signs(Trees.signsOf("2122")));
        clashAlone("4: signs(1222)", 2, x -> x.signs(Trees.signsOf("1222")));
    }

    private void clashesWithAll() {
        clashAlone("3: add(0, 0)", 0, x -> x.add(0, 0));
        clashAlone("3: add(-1, -1)", 0, x -> x.add(-1, -1));
        clashAlone("3: add(-1, 0)", 1, x -> x.add(-1, 0));
        clashAlone("4: signs(2)", 0, x -> x.signs(2));
    }

    private void fullOnes() {
        clashAlone("3: add of a free word", -1, x -> x.add(0x3ff, 600));
        clashAlone("3: add that clashes", -1, x -> x.add(0x3ff, 511));
        clashAlone("3: add that clashes with all", -1, x -> x.add(0, 0));
        clashAlone("4: signs of a free word", -1, x -> x.signs(Trees.signsOf("1000000000")));
        clashAlone("4: signs that clash", -1, x -> x.signs(0));
    }

    /** Bad and not there: not even the clash changes. */
    private void unchanged(String call, String due, Use refused) {
        PatternTree asked = made.make();
        PatternTree twin = made.make();
        check.refuses(state + ", " + call, due, () -> refused.on(asked));
        check.same(state + ", clash after " + call, "" + twin.count(2), "" + asked.count(2));
        stayAlike(call, asked, twin);
    }

    private void clashAlone(String call, int clash, Use refused) {
        PatternTree asked = made.make();
        PatternTree twin = made.make();
        check.refuses(state + ", " + call, Check.REFUSED, () -> refused.on(asked));
        check.same(state + ", clash after " + call, "" + clash, "" + asked.count(2));
        stayAlike(call, asked, twin);
    }

    /** Goes on with both, for what a refused call left behind may show only later. */
    private void stayAlike(String call, PatternTree asked, PatternTree twin) {
        alike("after " + call, asked, twin);
        alikeAfter(call + " and drop", asked, twin, x -> x.drop(0));
        alikeAfter(call + " and add", asked, twin, x -> x.add(-1, 6));
        alikeAfter(call + " and clear", asked, twin, x -> x.clear(64));
        alikeAfter(call + ", clear and add", asked, twin, x -> x.add(TOP, TOP));
    }

    private void alikeAfter(String what, PatternTree asked, PatternTree twin, Use use) {
        check.refuses(state + ", " + what, Check.thrownBy(() -> use.on(twin)), () -> use.on(asked));
        alike("after " + what, asked, twin);
    }

    /** With a wrong length the calls that go bit by bit might not end, so it is compared first. */
    private void alike(String when, PatternTree asked, PatternTree twin) {
        check.same(state + ", length " + when, "" + twin.count(1), "" + asked.count(1));
        if (twin.count(1) == asked.count(1)) {
            check.same(state + ", " + when, seenOf(twin), seenOf(asked));
        }
    }

    /** All but the clash; of 512 patterns the first and the last ones. */
    private static String seenOf(PatternTree x) {
        StringBuilder seen = new StringBuilder();
        int patterns = x.count(0);
        seen.append(patterns).append(" of ").append(x.count(1)).append(" bits, ").append(x.count(3));
        for (int i = 0; i < patterns; i = i == 2 && patterns > 6 ? patterns - 3 : i + 1) {
            seen.append("; ").append(i);
            for (int what = 0; what < 3; what++) {
                seen.append(' ').append(x.told(i, what));
            }
        }
        for (long word : new long[] {0, 1, 4, 5, 6, 9, 15, 510, 511, 512, 600, TOP, -1}) {
            seen.append("; ").append(word).append(' ').append(x.decode(word));
            seen.append(' ').append(x.free(-1, word)).append(' ').append(nextOf(x, word));
        }
        return seen.append("; ").append(x.meets(0, 0)).append(' ').append(x.free(0, 0)).toString();
    }

    private static String nextOf(PatternTree x, long word) {
        try {
            return "" + x.next(word);
        } catch (RuntimeException e) {
            return e.getClass().getSimpleName();
        }
    }
}

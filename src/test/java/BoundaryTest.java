/** The sentences of promises 1 to 11 that name a boundary case, each with its own test. */
public final class BoundaryTest {
    /** To the base of three a 1 and 39 times 0. */
    private static final long FORTIETH_DIGIT = 4052555153018976267L;

    private static final int[] ABSENT_OF_THREE = {3, 4, -1, 511, 512, Integer.MIN_VALUE, Integer.MAX_VALUE};
    private static final Check check = new Check();

    public static void main(String[] args) {
        check.sentence("Promise 1", "No PATTERNS", BoundaryTest::newHasNoPatterns);
        check.sentence("Promise 2", "There are no PATTERNS", BoundaryTest::clearLeavesNoPatterns);
        check.sentence("Promise 2", "LENGTH is n (1 .. 64)", BoundaryTest::clearWithinTheLengths);
        check.sentence("Promise 2", "LENGTH is n (1 .. 64), a number out of range is bad",
                BoundaryTest::clearOutsideTheLengths);
        check.sentence("Promise 3", "A PATTERN comes behind the others", BoundaryTest::addComesBehind);
        check.sentence("Promise 3", "WANT is 1 where CARE isn't: bad", BoundaryTest::addOfStrayWant);
        check.sentence("Promise 3", "It CLASHES with one: REFUSED", BoundaryTest::addThatClashes);
        check.sentence("Promise 3", "512 are there: REFUSED, before", BoundaryTest::addToFull);
        check.sentence("Promise 3", "Answers its number", BoundaryTest::addAnswersItsNumber);
        check.sentence("Promise 4", "0 and 1 as they are, 2 open", BoundaryTest::signsAsTheyAre);
        check.sentence("Promise 4", "digits of the number to the base of three, the last one for the lowest bit",
                BoundaryTest::signsLastIsLowest);
        check.sentence("Promise 4", "so for at most 40 bits; those above are open",
                BoundaryTest::signsAboveForty);
        check.sentence("Promise 4", "digits beyond LENGTH do not count", BoundaryTest::signsBeyondLength);
        check.sentence("Promise 4", "It's below 0: bad", BoundaryTest::signsBelowZero);
        check.sentence("Promise 4", "REFUSED as by add", BoundaryTest::signsRefusedAsByAdd);
        check.sentence("Promise 5", "PATTERN i goes; those behind it move up by one",
                BoundaryTest::dropMovesUp);
        check.sentence("Promise 5", "Not there: not there", BoundaryTest::dropOfNone);
        check.sentence("Promise 6", "-1 if of none", BoundaryTest::decodeOfNone);
        check.sentence("Promise 7", "The number of the first PATTERN that would CLASH",
                BoundaryTest::meetsTheFirst);
        check.sentence("Promise 7", "-1 without", BoundaryTest::meetsNone);
        check.sentence("Promise 7", "WANT is 1 where CARE isn't: bad", BoundaryTest::meetsOfStrayWant);
        check.sentence("Promise 8", "How many WORDS that fit CARE and WANT (as a PATTERN) are of no PATTERN",
                BoundaryTest::freeOfNoneAndOfAll);
        check.sentence("Promise 8", "as a long (2^64 as 0)", BoundaryTest::freeBeyondLongs);
        check.sentence("Promise 8", "WANT is 1 where CARE isn't: bad", BoundaryTest::freeOfStrayWant);
        check.sentence("Promise 9", "The least WORD from this one on", BoundaryTest::nextFromThisOneOn);
        check.sentence("Promise 9", "(without sign)", BoundaryTest::nextWithoutSign);
        check.sentence("Promise 9", "None: not there", BoundaryTest::nextOfNone);
        check.sentence("Promise 10", "CARE (what 0), WANT (1), how many of its bits are open (2)",
                BoundaryTest::toldOfOpenBits);
        check.sentence("Promise 10", "Not there: not there", BoundaryTest::toldOfNone);
        check.sentence("Promise 10", "another what: bad, before", BoundaryTest::toldOfAnotherWhat);
        check.sentence("Promise 11", "PATTERNS (0), LENGTH (1)", BoundaryTest::countOfPatterns);
        check.sentence("Promise 11", "with which one (the first) the latest REFUSED CLASHED",
                BoundaryTest::countOfClashTheFirst);
        check.sentence("Promise 11", "the latest REFUSED", BoundaryTest::countOfClashTheLatest);
        check.sentence("Promise 11", "-1 if there was none", BoundaryTest::countOfNoClash);
        check.sentence("Promise 11", "or it was by 512", BoundaryTest::countOfClashByFull);
        check.sentence("Promise 11", "clear leaves it", BoundaryTest::countOfClashAfterClear);
        check.sentence("Promise 11",
                "what there must never be: PATTERNS beyond one that a WORD was of, in all decode so far",
                BoundaryTest::countOfWhatMustNeverBe);
        check.sentence("Promise 11", "else -1", BoundaryTest::countOfElse);
        check.end("BoundaryTest");
    }

    private static void newHasNoPatterns() {
        PatternTree x = new PatternTree();
        check.answers("count", 0, () -> x.count(0));
        check.answers("decode of the least word", -1, () -> x.decode(0));
        check.answers("decode of the greatest word", -1, () -> x.decode(-1));
        check.answers("meets", -1, () -> x.meets(0, 0));
        check.answers("all words are free", 1L << 32, () -> x.free(0, 0));
        check.answers("next is itself", 0, () -> x.next(0));
        check.refuses("drop", Check.NOT_THERE, () -> x.drop(0));
        check.refuses("told", Check.NOT_THERE, () -> x.told(0, 0));
        PatternTree other = new PatternTree();
        other.add(0, 0);
        check.answers("none through another object", 0, () -> x.count(0));
        check.answers("no words through another object", -1, () -> x.decode(0));
    }

    private static void clearLeavesNoPatterns() {
        PatternTree x = Trees.ofThree();
        x.clear(4);
        check.answers("count", 0, () -> x.count(0));
        check.answers("decode", -1, () -> x.decode(0));
        check.answers("meets", -1, () -> x.meets(0, 0));
        check.answers("free", 16, () -> x.free(0, 0));
        check.answers("next", 0, () -> x.next(0));
        check.refuses("drop", Check.NOT_THERE, () -> x.drop(0));
        check.refuses("told", Check.NOT_THERE, () -> x.told(0, 0));
        x.clear(4);
        check.answers("again, without any", 0, () -> x.count(0));
        check.answers("the one that clashed with all", 0, () -> x.add(0, 0));
        PatternTree full = ofFull();
        full.clear(64);
        check.answers("after 512", 0, () -> full.count(0));
        check.answers("room after 512", 0, () -> full.add(0, 0));
    }

    /** All calls on it are beyond the promised ones; that 512 are there can show nowhere else. */
    private static PatternTree ofFull() {
        PatternTree x = new PatternTree();
        for (int i = 0; i < 512; i++) {
            x.add(0x3ff, i);
        }
        return x;
    }

    private static void clearWithinTheLengths() {
        PatternTree x = new PatternTree();
        for (int n : new int[] {1, 64, 2, 63, 32, 64, 1}) {
            check.refuses("clear(" + n + ")", Check.NOTHING, () -> x.clear(n));
            check.answers("length " + n, n, () -> x.count(1));
            check.answers("one open in all", 0, () -> x.add(0, 0));
            check.answers("open bits", n, () -> x.told(0, 2));
        }
    }

    private static void clearOutsideTheLengths() {
        PatternTree x = Trees.ofThree();
        for (int n : new int[] {0, -1, -64, 65, 66, 128, 64 + 256, Integer.MIN_VALUE, Integer.MAX_VALUE}) {
            check.refuses("clear(" + n + ")", Check.BAD, () -> x.clear(n));
            check.answers("length after clear(" + n + ")", 4, () -> x.count(1));
            check.answers("patterns after clear(" + n + ")", 3, () -> x.count(0));
            check.answers("decode after clear(" + n + ")", 2, () -> x.decode(15));
        }
    }

    private static void addComesBehind() {
        PatternTree x = Trees.ofThree();
        x.add(0b1111, 0b1000);
        check.answers("it is the last", 0b1000, () -> x.told(3, 1));
        check.answers("the first stays", 0b1100, () -> x.told(0, 0));
        check.answers("the one before it stays", 0b1001, () -> x.told(2, 1));
        x.drop(1);
        x.add(0b1111, 0b0100);
        check.answers("not in the place of one dropped", 0b0100, () -> x.told(3, 1));
        check.refuses("none behind it", Check.NOT_THERE, () -> x.told(4, 1));
    }

    private static void addOfStrayWant() {
        PatternTree x = Trees.ofLength(8);
        check.refuses("no care", Check.BAD, () -> x.add(0, 1));
        check.refuses("one bit too many", Check.BAD, () -> x.add(0xf0, 0xf1));
        check.refuses("highest bit", Check.BAD, () -> x.add(0x7f, 0x80));
        check.answers("beyond the highest bit", 0, () -> x.add(0x7f, 0x100));
        check.answers("the bad did not come", 1, () -> x.count(0));
    }

    private static void addThatClashes() {
        PatternTree x = Trees.ofThree();
        check.refuses("with the first alone", Check.REFUSED, () -> x.add(0b1111, 0b0011));
        check.refuses("with the last alone", Check.REFUSED, () -> x.add(0b1111, 0b1111));
        check.refuses("with all", Check.REFUSED, () -> x.add(0, 0));
        check.refuses("in one word", Check.REFUSED, () -> x.add(0b0100, 0b0100));
        check.answers("the refused did not come", 3, () -> x.count(0));
        check.answers("the free words all but it", 3, () -> x.add(0b1001, 0b1000));
        check.refuses("itself again", Check.REFUSED, () -> x.add(0b1001, 0b1000));
        x.drop(3);
        check.answers("once the other is gone", 3, () -> x.add(0b1001, 0b1000));
    }

    private static void addToFull() {
        PatternTree x = ofFull();
        check.refuses("beside all", Check.REFUSED, () -> x.add(0x3ff, 512));
        check.refuses("clashing with the first", Check.REFUSED, () -> x.add(0x3ff, 0));
        check.answers("no clash was looked for", -1, () -> x.count(2));
        check.answers("none more", 512, () -> x.count(0));
        check.answers("no word more", -1, () -> x.decode(512));
        check.answers("the last stays", 511, () -> x.told(511, 1));
        x.drop(0);
        check.answers("room for one", 511, () -> x.add(0x3ff, 512));
        check.refuses("for one alone", Check.REFUSED, () -> x.add(0x3ff, 513));
    }

    private static void addAnswersItsNumber() {
        PatternTree x = Trees.ofLength(4);
        check.answers("the first", 0, () -> x.add(15, 0));
        check.answers("the second", 1, () -> x.add(15, 1));
        check.refuses("one is refused", Check.REFUSED, () -> x.add(15, 1));
        check.answers("after a refusal", 2, () -> x.add(15, 2));
        x.drop(0);
        check.answers("after a drop", 2, () -> x.add(15, 3));
        x.clear(4);
        check.answers("after clear", 0, () -> x.add(15, 4));
    }

    private static void signsAsTheyAre() {
        signed(1, "0", 1, 0);
        signed(1, "1", 1, 1);
        signed(1, "2", 0, 0);
        signed(4, "0000", 0b1111, 0b0000);
        signed(4, "1111", 0b1111, 0b1111);
        signed(4, "2222", 0b0000, 0b0000);
        signed(4, "0120", 0b1101, 0b0100);
        signed(4, "2102", 0b0110, 0b0100);
    }

    private static void signed(int length, String signs, long care, long want) {
        PatternTree x = Trees.ofLength(length);
        String name = signs + " of " + length + " bits";
        check.answers(name, 0, () -> x.signs(Trees.signsOf(signs)));
        check.answers("care of " + name, care, () -> x.told(0, 0));
        check.answers("want of " + name, want, () -> x.told(0, 1));
        check.answers("open bits of " + name, length - Long.bitCount(care), () -> x.told(0, 2));
    }

    private static void signsLastIsLowest() {
        signed(4, "1", 0b1111, 0b0001);
        signed(4, "2", 0b1110, 0b0000);
        signed(4, "10", 0b1111, 0b0010);
        signed(4, "1000", 0b1111, 0b1000);
        signed(32, "2", 0xfffffffeL, 0);
        signed(40, "0", (1L << 40) - 1, 0);
        signed(40, "1" + "0".repeat(39), (1L << 40) - 1, 1L << 39);
        signed(40, "2" + "0".repeat(39), (1L << 39) - 1, 0);
        signed(39, "2".repeat(39), 0, 0);
    }

    private static void signsAboveForty() {
        long forty = (1L << 40) - 1;
        signed(41, "0", forty, 0);
        signed(64, "0", forty, 0);
        signed(64, "1" + "0".repeat(39), forty, 1L << 39);
        signed(64, "2" + "0".repeat(39), forty >> 1, 0);
        PatternTree x = Trees.ofLength(64);
        check.answers("the 40th digit", 0, () -> x.signs(FORTIETH_DIGIT));
        check.answers("with 0 above", 0, () -> x.decode(1L << 39));
        check.answers("with 1 above", 0, () -> x.decode(-1L << 39));
        check.answers("the 40th bit is not open", -1, () -> x.decode(-1L << 40));
        greatestSigned(40);
        greatestSigned(64);
    }

    /** The digits of the greatest long, as the library writes them. */
    private static void greatestSigned(int length) {
        String signs = Long.toString(Long.MAX_VALUE, 3);
        long within = -1L >>> (64 - length);
        signed(length, signs, (bitsOf(signs, '0') | bitsOf(signs, '1')) & within, bitsOf(signs, '1') & within);
    }

    private static long bitsOf(String signs, char sign) {
        long bits = 0;
        for (char one : signs.toCharArray()) {
            bits = bits << 1 | (one == sign ? 1 : 0);
        }
        return bits;
    }

    private static void signsBeyondLength() {
        signed(1, "10", 1, 0);
        signed(1, "21", 1, 1);
        signed(1, "12", 0, 0);
        PatternTree x = Trees.ofLength(3);
        check.answers("1210201", 0, () -> x.signs(Trees.signsOf("1210201")));
        check.answers("care", 0b011, () -> x.told(0, 0));
        check.answers("want", 0b001, () -> x.told(0, 1));
        check.answers("open bits are of 3", 1, () -> x.told(0, 2));
        check.refuses("apart beyond alone", Check.REFUSED, () -> x.signs(Trees.signsOf("2020201")));
        PatternTree y = Trees.ofLength(39);
        check.answers("the 40th digit of 39", 0, () -> y.signs(FORTIETH_DIGIT));
        check.answers("no want of it", 0, () -> y.told(0, 1));
        greatestSigned(39);
        greatestSigned(1);
    }

    private static void signsBelowZero() {
        PatternTree x = Trees.ofLength(4);
        check.refuses("-1", Check.BAD, () -> x.signs(-1));
        check.refuses("-3", Check.BAD, () -> x.signs(-3));
        check.refuses("the least long", Check.BAD, () -> x.signs(Long.MIN_VALUE));
        check.answers("none came", 0, () -> x.count(0));
        check.answers("0 is not below 0", 0, () -> x.signs(0));
    }

    private static void signsRefusedAsByAdd() {
        PatternTree x = Trees.ofThree();
        check.refuses("clash with the last", Check.REFUSED, () -> x.signs(Trees.signsOf("1111")));
        check.answers("which one", 2, () -> x.count(2));
        check.refuses("clash with all", Check.REFUSED, () -> x.signs(Trees.signsOf("2222")));
        check.answers("the first", 0, () -> x.count(2));
        check.answers("none came", 3, () -> x.count(0));
        check.answers("no clash", 3, () -> x.signs(Trees.signsOf("1220")));
        PatternTree full = ofFull();
        check.refuses("512 are there", Check.REFUSED, () -> full.signs(Trees.signsOf("1000000000")));
        check.refuses("512 are there, before a clash", Check.REFUSED, () -> full.signs(0));
        check.answers("no clash was looked for", -1, () -> full.count(2));
    }

    private static void dropMovesUp() {
        dropped(0, 4, 9);
        dropped(1, 0, 9);
        dropped(2, 0, 4);
        PatternTree x = Trees.ofLength(64);
        x.add(0, 0);
        x.drop(0);
        check.answers("the only one", 0, () -> x.count(0));
        check.answers("its words", -1, () -> x.decode(-1));
        check.refuses("it is no more told", Check.NOT_THERE, () -> x.told(0, 0));
        PatternTree full = ofFull();
        full.drop(0);
        check.answers("of 512: one less", 511, () -> full.count(0));
        check.answers("of 512: the last moves up", 511, () -> full.told(510, 1));
        check.refuses("of 512: its old number", Check.NOT_THERE, () -> full.told(511, 1));
    }

    private static void dropped(int i, long want, long nextWant) {
        long[] wants = {0, 4, 9};
        long[] cares = {12, 15, 9};
        PatternTree x = Trees.ofThree();
        x.drop(i);
        check.answers("one less without " + i, 2, () -> x.count(0));
        check.answers("it is gone: " + i, -1, () -> x.decode(wants[i]));
        check.answers("first without " + i, want, () -> x.told(0, 1));
        check.answers("second without " + i, nextWant, () -> x.told(1, 1));
        check.answers("care of the second without " + i, cares[i == 2 ? 1 : 2], () -> x.told(1, 0));
        check.answers("decode of the first without " + i, 0, () -> x.decode(want));
        check.answers("decode of the second without " + i, 1, () -> x.decode(nextWant));
        check.refuses("told of a third without " + i, Check.NOT_THERE, () -> x.told(2, 0));
        check.answers("comes again behind: " + i, 2, () -> x.add(cares[i], wants[i]));
    }

    private static void dropOfNone() {
        PatternTree x = Trees.ofThree();
        for (int i : ABSENT_OF_THREE) {
            check.refuses("drop(" + i + ")", Check.NOT_THERE, () -> x.drop(i));
        }
        check.answers("none went", 3, () -> x.count(0));
        x.drop(2);
        check.refuses("what has just gone", Check.NOT_THERE, () -> x.drop(2));
        x.drop(1);
        x.drop(0);
        check.refuses("of none", Check.NOT_THERE, () -> x.drop(0));
        check.answers("no fewer than none", 0, () -> x.count(0));
    }

    private static void decodeOfNone() {
        PatternTree x = Trees.ofThree();
        check.answers("just before a pattern's word", -1, () -> x.decode(8));
        check.answers("just behind a pattern's word", -1, () -> x.decode(5));
        check.answers("the last pattern's greatest word", 2, () -> x.decode(15));
        check.refuses("one that is refused", Check.REFUSED, () -> x.add(0b0100, 0b0100));
        check.answers("its words are not taken", -1, () -> x.decode(6));
        x.drop(2);
        check.answers("of one that has gone", -1, () -> x.decode(15));
        PatternTree y = Trees.ofLength(64);
        check.answers("without patterns", -1, () -> y.decode(0));
        y.add(Long.MIN_VALUE, 0);
        check.answers("2^63", -1, () -> y.decode(Long.MIN_VALUE));
        check.answers("2^64 - 1", -1, () -> y.decode(-1));
        check.answers("2^63 - 1", 0, () -> y.decode(Long.MAX_VALUE));
        y.add(Long.MIN_VALUE, Long.MIN_VALUE);
        check.answers("none is left of none", 1, () -> y.decode(-1));
    }

    private static void meetsTheFirst() {
        PatternTree x = Trees.ofThree();
        check.answers("of all three", 0, () -> x.meets(0, 0));
        check.answers("of the last two", 1, () -> x.meets(0b0100, 0b0100));
        check.answers("the last alone", 2, () -> x.meets(0b1000, 0b1000));
        check.answers("in one word", 1, () -> x.meets(0b1111, 0b0100));
        x.drop(0);
        check.answers("once the first has gone", 0, () -> x.meets(0, 0));
        check.answers("it did not come", 2, () -> x.count(0));
        check.answers("it was not refused", -1, () -> x.count(2));
    }

    private static void meetsNone() {
        PatternTree x = Trees.ofThree();
        check.answers("beside all", -1, () -> x.meets(0b1001, 0b1000));
        check.answers("a free word", -1, () -> x.meets(0b1111, 0b0111));
        PatternTree y = Trees.ofLength(64);
        check.answers("without patterns", -1, () -> y.meets(0, 0));
        y.add(-1, -1);
        check.answers("all words but one", -1, () -> y.meets(Long.MIN_VALUE, 0));
    }

    private static void meetsOfStrayWant() {
        PatternTree x = Trees.ofThree();
        check.refuses("no care", Check.BAD, () -> x.meets(0, 1));
        check.refuses("highest bit", Check.BAD, () -> x.meets(0b0111, 0b1000));
        check.refuses("one bit too many", Check.BAD, () -> x.meets(0b1110, 0b1111));
        check.answers("beyond the highest bit", 0, () -> x.meets(0b0111, 0b10000));
        PatternTree none = Trees.ofLength(64);
        check.refuses("without patterns", Check.BAD, () -> none.meets(Long.MAX_VALUE, -1));
    }

    private static void freeOfNoneAndOfAll() {
        PatternTree x = Trees.ofThree();
        check.answers("of all words", 16 - 4 - 1 - 4, () -> x.free(0, 0));
        check.answers("all taken by one", 0, () -> x.free(0b1100, 0));
        check.answers("none taken", 4, () -> x.free(0b1001, 0b1000));
        check.answers("one taken", 3, () -> x.free(0b1100, 0b0100));
        check.answers("a word taken", 0, () -> x.free(0b1111, 0b0100));
        check.answers("a word free", 1, () -> x.free(0b1111, 0b0101));
        x.add(0b1001, 0b1000);
        x.add(0b1101, 0b0101);
        x.add(0b1111, 0b0110);
        check.answers("all taken by many", 0, () -> x.free(0, 0));
        x.drop(4);
        check.answers("free again", 2, () -> x.free(0, 0));
        x.clear(1);
        check.answers("of two words", 2, () -> x.free(0, 0));
        check.answers("of one word", 1, () -> x.free(1, 1));
    }

    private static void freeBeyondLongs() {
        PatternTree x = Trees.ofLength(64);
        check.answers("2^64", 0, () -> x.free(0, 0));
        check.answers("2^63", Long.MIN_VALUE, () -> x.free(Long.MIN_VALUE, 0));
        check.answers("2^62", 1L << 62, () -> x.free(3, 1));
        x.add(-1, -1);
        check.answers("2^64 - 1", -1, () -> x.free(0, 0));
        check.answers("2^63 - 1", Long.MAX_VALUE, () -> x.free(1, 1));
        x.add(Long.MIN_VALUE, 0);
        check.answers("2^63 - 1 of all", Long.MAX_VALUE, () -> x.free(0, 0));
        x.clear(64);
        x.add(0, 0);
        check.answers("none of 2^64", 0, () -> x.free(0, 0));
        check.answers("none of 1", 0, () -> x.free(-1, 0));
        x.clear(63);
        check.answers("2^63 of 63 bits", Long.MIN_VALUE, () -> x.free(0, 0));
    }

    private static void freeOfStrayWant() {
        PatternTree x = Trees.ofThree();
        check.refuses("no care", Check.BAD, () -> x.free(0, 1));
        check.refuses("highest bit", Check.BAD, () -> x.free(0b0111, 0b1000));
        check.refuses("one bit too many", Check.BAD, () -> x.free(0b1110, 0b1111));
        check.answers("beyond the highest bit", 1, () -> x.free(0b0111, 0b10000));
        PatternTree none = Trees.ofLength(64);
        check.refuses("without patterns", Check.BAD, () -> none.free(Long.MAX_VALUE, -1));
    }

    private static void nextFromThisOneOn() {
        PatternTree x = Trees.ofThree();
        long[] due = {5, 5, 5, 5, 5, 5, 6, 7, 8, 10, 10, 12, 12, 14, 14};
        for (int word = 0; word < due.length; word++) {
            int asked = word;
            check.answers("from " + word, due[word], () -> x.next(asked));
        }
        PatternTree y = Trees.ofLength(64);
        y.add(1, 0);
        y.add(Long.MIN_VALUE | 1, 1);
        check.answers("2^63 words on", Long.MIN_VALUE | 1, () -> y.next(0));
        for (int at = 0; at < 63; at++) {
            long top = Long.MIN_VALUE;
            long bit = 1L << at;
            y.clear(64);
            y.add(top, 0);
            y.add(top | bit, top);
            check.answers("the highest bit and bit " + at, top | bit, () -> y.next(Long.MAX_VALUE));
        }
        PatternTree z = Trees.ofLength(64);
        z.add(Long.MIN_VALUE, 0);
        check.answers("over half of all words at once", Long.MIN_VALUE, () -> z.next(0));
    }

    private static void nextWithoutSign() {
        PatternTree x = Trees.ofLength(64);
        x.add(-1, Long.MAX_VALUE);
        x.add(-1, 0);
        check.answers("behind 2^63 - 1", Long.MIN_VALUE, () -> x.next(Long.MAX_VALUE));
        check.answers("behind 0", 1, () -> x.next(0));
        check.answers("the last word", -1, () -> x.next(-1));
        x.add(-1, -1);
        check.refuses("behind the last word comes not 1", Check.NOT_THERE, () -> x.next(-1));
        x.clear(64);
        x.add(Long.MIN_VALUE, Long.MIN_VALUE);
        check.answers("2^63 - 1 itself", Long.MAX_VALUE, () -> x.next(Long.MAX_VALUE));
        check.refuses("not from 2^63 to 0", Check.NOT_THERE, () -> x.next(Long.MIN_VALUE));
    }

    private static void nextOfNone() {
        PatternTree x = Trees.ofThree();
        check.refuses("behind the last free word", Check.NOT_THERE, () -> x.next(15));
        x.add(0b1001, 0b1000);
        check.refuses("lesser ones are free", Check.NOT_THERE, () -> x.next(8));
        check.answers("the last free word itself", 7, () -> x.next(7));
        for (int n : new int[] {1, 32, 63, 64}) {
            PatternTree all = Trees.ofLength(n);
            all.add(0, 0);
            check.refuses("one of all words, length " + n, Check.NOT_THERE, () -> all.next(0));
            PatternTree halves = Trees.ofLength(n);
            halves.add(1, 0);
            check.answers("half of all words, length " + n, 1, () -> halves.next(0));
            halves.add(1, 1);
            check.refuses("two of all words, length " + n, Check.NOT_THERE, () -> halves.next(0));
            check.refuses("from the last, length " + n, Check.NOT_THERE, () -> halves.next(-1));
        }
    }

    private static void toldOfOpenBits() {
        for (int n : new int[] {1, 32, 63, 64}) {
            long last = -1L >>> (64 - n);
            PatternTree x = Trees.ofLength(n);
            x.add(-1, -1);
            check.answers("care, all told of " + n, last, () -> x.told(0, 0));
            check.answers("want, all told of " + n, last, () -> x.told(0, 1));
            check.answers("open, all told of " + n, 0, () -> x.told(0, 2));
            x.drop(0);
            x.add(0, 0);
            check.answers("care, none told of " + n, 0, () -> x.told(0, 0));
            check.answers("want, none told of " + n, 0, () -> x.told(0, 1));
            check.answers("open, none told of " + n, n, () -> x.told(0, 2));
        }
    }

    private static void toldOfNone() {
        PatternTree x = Trees.ofThree();
        for (int what = 0; what < 3; what++) {
            int asked = what;
            for (int i : ABSENT_OF_THREE) {
                check.refuses("told(" + i + ", " + what + ")", Check.NOT_THERE, () -> x.told(i, asked));
            }
            check.refuses("of the last, " + what, Check.NOTHING, () -> x.told(2, asked));
        }
        x.drop(0);
        check.refuses("the last number after a drop", Check.NOT_THERE, () -> x.told(2, 0));
        x.clear(4);
        check.refuses("the first after clear", Check.NOT_THERE, () -> x.told(0, 0));
    }

    private static void toldOfAnotherWhat() {
        PatternTree x = Trees.ofThree();
        for (int what : new int[] {3, 4, -1, Integer.MIN_VALUE, Integer.MAX_VALUE}) {
            check.refuses("told(0, " + what + ")", Check.BAD, () -> x.told(0, what));
            for (int i : ABSENT_OF_THREE) {
                check.refuses("told(" + i + ", " + what + ")", Check.BAD, () -> x.told(i, what));
            }
        }
    }

    private static void countOfPatterns() {
        PatternTree x = new PatternTree();
        check.answers("none", 0, () -> x.count(0));
        check.answers("length at first", 32, () -> x.count(1));
        x.clear(1);
        check.answers("least length", 1, () -> x.count(1));
        x.clear(64);
        check.answers("greatest length", 64, () -> x.count(1));
        x.add(0, 0);
        check.answers("one", 1, () -> x.count(0));
        x.drop(0);
        check.answers("none again", 0, () -> x.count(0));
        PatternTree full = ofFull();
        check.answers("512", 512, () -> full.count(0));
    }

    private static void countOfClashTheFirst() {
        PatternTree x = Trees.ofThree();
        check.refuses("with all three", Check.REFUSED, () -> x.add(0, 0));
        check.answers("the first of three", 0, () -> x.count(2));
        check.refuses("with the last two", Check.REFUSED, () -> x.add(0b0100, 0b0100));
        check.answers("the first of two", 1, () -> x.count(2));
        check.refuses("with the last", Check.REFUSED, () -> x.add(0b1000, 0b1000));
        check.answers("the only one", 2, () -> x.count(2));
    }

    private static void countOfClashTheLatest() {
        PatternTree x = Trees.ofThree();
        check.refuses("with the last", Check.REFUSED, () -> x.add(15, 15));
        check.refuses("with the first", Check.REFUSED, () -> x.signs(0));
        check.answers("the latest", 0, () -> x.count(2));
        check.refuses("with the second", Check.REFUSED, () -> x.add(15, 4));
        check.answers("the latest of three", 1, () -> x.count(2));
        x.add(15, 5);
        x.signs(Trees.signsOf("0110"));
        check.answers("what comes leaves it", 1, () -> x.count(2));
        x.decode(15);
        x.meets(15, 15);
        x.free(0, 0);
        x.next(0);
        x.told(0, 0);
        check.answers("what asks leaves it", 1, () -> x.count(2));
        x.drop(4);
        check.answers("drop of one behind leaves it", 1, () -> x.count(2));
        x.drop(1);
        check.answers("drop of itself leaves it", 1, () -> x.count(2));
        x.drop(0);
        check.answers("drop of one before leaves it", 1, () -> x.count(2));
    }

    private static void countOfNoClash() {
        PatternTree x = new PatternTree();
        check.answers("at first", -1, () -> x.count(2));
        x.add(1, 1);
        x.meets(1, 1);
        check.refuses("bad", Check.BAD, () -> x.add(0, 1));
        check.refuses("bad signs", Check.BAD, () -> x.signs(-1));
        check.refuses("not there", Check.NOT_THERE, () -> x.drop(1));
        check.answers("none was REFUSED", -1, () -> x.count(2));
        x.clear(8);
        check.answers("nor by clear", -1, () -> x.count(2));
        PatternTree other = Trees.ofThree();
        check.refuses("of another object", Check.REFUSED, () -> other.add(0, 0));
        check.answers("not of this one", -1, () -> x.count(2));
    }

    private static void countOfClashByFull() {
        PatternTree x = new PatternTree();
        for (int i = 0; i < 511; i++) {
            x.add(0x3ff, i);
        }
        check.refuses("clash", Check.REFUSED, () -> x.add(0x3ff, 7));
        check.answers("with", 7, () -> x.count(2));
        x.add(0x3ff, 511);
        check.answers("as before", 7, () -> x.count(2));
        check.refuses("by 512", Check.REFUSED, () -> x.add(0x3ff, 7));
        check.answers("by 512 it is none", -1, () -> x.count(2));
    }

    private static void countOfClashAfterClear() {
        PatternTree x = Trees.ofThree();
        check.refuses("clash", Check.REFUSED, () -> x.add(15, 15));
        x.clear(1);
        check.answers("after clear", 2, () -> x.count(2));
        x.clear(64);
        check.answers("after another", 2, () -> x.count(2));
        check.refuses("bad clear", Check.BAD, () -> x.clear(65));
        check.answers("after a bad one", 2, () -> x.count(2));
        x.add(0, 0);
        check.refuses("a new clash", Check.REFUSED, () -> x.add(0, 0));
        check.answers("a new one", 0, () -> x.count(2));
    }

    private static void countOfWhatMustNeverBe() {
        PatternTree x = Trees.ofThree();
        check.answers("before any decode", 0, () -> x.count(3));
        check.refuses("one that clashes", Check.REFUSED, () -> x.add(0, 0));
        for (int word = 0; word < 16; word++) {
            x.decode(word);
        }
        check.answers("after all words", 0, () -> x.count(3));
        x.drop(0);
        x.add(0b1100, 0);
        x.decode(0);
        x.clear(64);
        x.add(0, 0);
        x.decode(-1);
        check.answers("after drop and clear", 0, () -> x.count(3));
    }

    private static void countOfElse() {
        PatternTree x = Trees.ofThree();
        check.refuses("clash", Check.REFUSED, () -> x.add(0, 0));
        for (int what : new int[] {4, 5, -1, -2, 256, Integer.MIN_VALUE, Integer.MAX_VALUE}) {
            check.answers("count(" + what + ")", -1, () -> x.count(what));
        }
    }
}

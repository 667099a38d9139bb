/** The promises one by one: ordinary inputs, the edges the document names, and wrong inputs. */
public final class PromiseTest {
    private static final Check check = new Check();

    public static void main(String[] args) {
        newObject();
        clearing();
        clearingWrongly();
        adding();
        addingBeyondLength();
        addingWrongly();
        addingManyPatterns();
        signing();
        signingAtTheEdges();
        signingWrongly();
        dropping();
        droppingWrongly();
        decoding();
        meeting();
        freeing();
        freeingAllWords();
        nexting();
        nextingFarAway();
        telling();
        tellingWrongly();
        counting();
        countingClashes();
        check.end("PromiseTest");
    }

    private static PatternTree ofLength(int n) {
        PatternTree x = new PatternTree();
        x.clear(n);
        return x;
    }

    private static void newObject() {
        PatternTree x = new PatternTree();
        check.answers("1: patterns at first", 0, () -> x.count(0));
        check.answers("1: length at first", 32, () -> x.count(1));
        check.answers("1: clash at first", -1, () -> x.count(2));
        check.answers("1: surplus at first", 0, () -> x.count(3));
        check.answers("1: no pattern decodes", -1, () -> x.decode(0));
        check.answers("1: all 2^32 words are free", 1L << 32, () -> x.free(0, 0));
        check.answers("1: next of a word of 32 bits", 0xffffffffL, () -> x.next(-1));
        check.refuses("1: nothing to tell", Check.NOT_THERE, () -> x.told(0, 0));
        PatternTree y = new PatternTree();
        y.add(1, 1);
        check.answers("1: objects share nothing", 0, () -> x.count(0));
    }

    private static void clearing() {
        PatternTree x = new PatternTree();
        x.add(1, 0);
        x.add(1, 1);
        x.clear(64);
        check.answers("2: no patterns", 0, () -> x.count(0));
        check.answers("2: length 64", 64, () -> x.count(1));
        check.answers("2: nothing decodes", -1, () -> x.decode(1));
        check.refuses("2: nothing told", Check.NOT_THERE, () -> x.told(0, 0));
        check.answers("2: numbers begin anew", 0, () -> x.add(1, 1));
        for (int n = 1; n <= 64; n++) {
            int bits = n;
            x.clear(n);
            check.answers("2: length " + n, n, () -> x.count(1));
            check.answers("2: words of length " + n, n == 64 ? 0 : 1L << n, () -> x.free(0, 0));
            check.answers("2: last word of length " + n, -1L >>> (64 - bits), () -> x.next(-1));
        }
    }

    private static void clearingWrongly() {
        PatternTree x = ofLength(7);
        x.add(3, 1);
        for (int n : new int[] {0, -1, 65, 66, 128, Integer.MIN_VALUE, Integer.MAX_VALUE}) {
            check.refuses("2: clear(" + n + ")", Check.BAD, () -> x.clear(n));
        }
        check.answers("2: patterns stay when refused", 1, () -> x.count(0));
        check.answers("2: length stays when refused", 7, () -> x.count(1));
        check.answers("2: decode as before", 0, () -> x.decode(5));
    }

    private static void adding() {
        PatternTree x = ofLength(8);
        check.answers("3: first", 0, () -> x.add(0xf0, 0x00));
        check.answers("3: second", 1, () -> x.add(0xf0, 0x10));
        check.answers("3: one word", 2, () -> x.add(0xff, 0xff));
        check.refuses("3: the same again", Check.REFUSED, () -> x.add(0xf0, 0x10));
        check.answers("3: clashed with", 1, () -> x.count(2));
        check.refuses("3: within another", Check.REFUSED, () -> x.add(0xff, 0x13));
        check.refuses("3: round another", Check.REFUSED, () -> x.add(0x80, 0x80));
        check.answers("3: clashed with the last", 2, () -> x.count(2));
        check.refuses("3: across others", Check.REFUSED, () -> x.add(0x0f, 0x03));
        check.answers("3: clashed with the first of two", 0, () -> x.count(2));
        check.answers("3: refused ones did not come", 3, () -> x.count(0));
        check.answers("3: next to others", 3, () -> x.add(0xf1, 0xf0));
        check.answers("3: decodes", 3, () -> x.decode(0xfe));
        PatternTree all = ofLength(64);
        check.answers("3: open in all bits", 0, () -> all.add(0, 0));
        check.refuses("3: nothing beside it", Check.REFUSED, () -> all.add(-1, -1));
    }

    private static void addingBeyondLength() {
        PatternTree x = ofLength(4);
        check.answers("3: want beyond length", 0, () -> x.add(0x3, 0x31));
        check.answers("3: care beyond length", 1, () -> x.add(-13, 0xf2));
        check.answers("3: care is a word", 3, () -> x.told(1, 0));
        check.answers("3: want is a word", 2, () -> x.told(1, 1));
        check.answers("3: want of the first is a word", 1, () -> x.told(0, 1));
        check.refuses("3: apart only beyond length", Check.REFUSED, () -> x.add(0x13, 0x11));
        check.refuses("3: stray want within length", Check.BAD, () -> x.add(0x7, 0x8));
        PatternTree y = ofLength(64);
        check.answers("3: highest bit counts", 0, () -> y.add(Long.MIN_VALUE, Long.MIN_VALUE));
        check.answers("3: other half", 1, () -> y.add(Long.MIN_VALUE, 0));
        check.refuses("3: stray highest bit", Check.BAD, () -> y.add(Long.MAX_VALUE, Long.MIN_VALUE));
    }

    private static void addingWrongly() {
        PatternTree x = ofLength(8);
        x.add(0xf0, 0x10);
        check.refuses("3: clash before", Check.REFUSED, () -> x.add(0, 0));
        check.refuses("3: stray want", Check.BAD, () -> x.add(0xf0, 0x21));
        check.refuses("3: stray want, would clash too", Check.BAD, () -> x.add(0xf0, 0x11));
        check.refuses("3: no care but want", Check.BAD, () -> x.add(0, 1));
        check.answers("3: bad brings no pattern", 1, () -> x.count(0));
        check.answers("3: bad leaves the clash", 0, () -> x.count(2));
    }

    private static void addingManyPatterns() {
        PatternTree x = new PatternTree();
        for (int i = 0; i < 512; i++) {
            int number = i;
            check.answers("3: pattern " + i, i, () -> x.add(0x3ff, number));
        }
        // From here on the calls are beyond the 512 that the document promises; what is meant by
        // «512 are there» shows only here.
        check.refuses("3: the 513th", Check.REFUSED, () -> x.add(0x3ff, 512));
        check.answers("3: by 512, no clash", -1, () -> x.count(2));
        check.refuses("3: 512 comes before a clash", Check.REFUSED, () -> x.add(0, 0));
        check.answers("3: still no clash", -1, () -> x.count(2));
        check.refuses("4: 512 are there", Check.REFUSED, () -> x.signs(0));
        check.answers("4: no clash either", -1, () -> x.count(2));
        check.refuses("3: bad comes before 512", Check.BAD, () -> x.add(0, 1));
        check.refuses("4: bad comes before 512", Check.BAD, () -> x.signs(-1));
        check.answers("3: 512 patterns", 512, () -> x.count(0));
        check.answers("6: last of 512", 511, () -> x.decode(511));
        x.drop(0);
        check.answers("5: all moved up", 510, () -> x.decode(511));
        check.refuses("3: clash with 511 there", Check.REFUSED, () -> x.add(0x3ff, 3));
        check.answers("11: clashed with", 2, () -> x.count(2));
        check.answers("3: room again", 511, () -> x.add(0x3ff, 0));
        check.refuses("3: full again", Check.REFUSED, () -> x.add(0x3ff, 3));
        check.answers("11: by 512 there is no clash any more", -1, () -> x.count(2));
    }

    private static long signsOf(String signs) {
        return Long.parseLong(signs, 3);
    }

    private static void signing() {
        PatternTree x = ofLength(4);
        check.answers("4: 0120", 0, () -> x.signs(signsOf("0120")));
        check.answers("4: care of 0120", 0b1101, () -> x.told(0, 0));
        check.answers("4: want of 0120", 0b0100, () -> x.told(0, 1));
        check.answers("4: 1222", 1, () -> x.signs(signsOf("1222")));
        check.answers("4: open bits of 1222", 3, () -> x.told(1, 2));
        check.refuses("4: clash", Check.REFUSED, () -> x.signs(signsOf("2110")));
        check.answers("4: clashed with", 0, () -> x.count(2));
        check.refuses("4: clash with the second", Check.REFUSED, () -> x.signs(signsOf("1011")));
        check.answers("4: clashed with the second", 1, () -> x.count(2));
        check.answers("4: refused ones did not come", 2, () -> x.count(0));
        check.answers("4: 0 is all bits 0", 2, () -> x.signs(0));
        check.answers("4: it is the word 0", 2, () -> x.decode(0));
        check.answers("4: and that alone", 0b1111, () -> x.told(2, 0));
    }

    private static void signingAtTheEdges() {
        PatternTree x = ofLength(3);
        check.answers("4: digits beyond length", 0, () -> x.signs(signsOf("1210201")));
        check.answers("4: care without them", 0b011, () -> x.told(0, 0));
        check.answers("4: want without them", 0b001, () -> x.told(0, 1));
        PatternTree y = ofLength(64);
        check.answers("4: 0 at length 64", 0, () -> y.signs(0));
        check.answers("4: 40 bits told", (1L << 40) - 1, () -> y.told(0, 0));
        check.answers("4: 24 bits open", 24, () -> y.told(0, 2));
        check.answers("4: a word of it", 0, () -> y.decode(-1L << 40));
        check.answers("4: the 40th digit 1", 1, () -> y.signs(4052555153018976267L));
        check.answers("4: the 40th bit", 1L << 39, () -> y.told(1, 1));
        y.clear(64);
        check.answers("4: the 40th digit 2", 0, () -> y.signs(2 * 4052555153018976267L));
        check.answers("4: the 40th bit open", (1L << 39) - 1, () -> y.told(0, 0));
        y.clear(64);
        check.answers("4: the greatest number", 0, () -> y.signs(Long.MAX_VALUE));
        long[] due = pairOf(Long.toString(Long.MAX_VALUE, 3));
        check.answers("4: its care", due[0], () -> y.told(0, 0));
        check.answers("4: its want", due[1], () -> y.told(0, 1));
        PatternTree z = ofLength(41);
        z.signs(0);
        check.answers("4: the 41st bit is open", 1, () -> z.told(0, 2));
        z.clear(40);
        z.signs(0);
        check.answers("4: the 40th is not", 0, () -> z.told(0, 2));
    }

    private static long[] pairOf(String signs) {
        long care = 0;
        long want = 0;
        for (char sign : signs.toCharArray()) {
            care = care << 1 | (sign == '2' ? 0 : 1);
            want = want << 1 | (sign == '1' ? 1 : 0);
        }
        return new long[] {care, want};
    }

    private static void signingWrongly() {
        PatternTree x = ofLength(4);
        x.add(0, 0);
        check.refuses("4: clash before", Check.REFUSED, () -> x.signs(5));
        check.refuses("4: -1", Check.BAD, () -> x.signs(-1));
        check.refuses("4: the least number", Check.BAD, () -> x.signs(Long.MIN_VALUE));
        check.answers("4: bad brings no pattern", 1, () -> x.count(0));
        check.answers("4: bad leaves the clash", 0, () -> x.count(2));
    }

    private static void dropping() {
        PatternTree x = ofLength(4);
        for (int i = 0; i < 4; i++) {
            x.add(0xc, i << 2);
        }
        x.drop(1);
        check.answers("5: one less", 3, () -> x.count(0));
        check.answers("5: before it stays", 0, () -> x.decode(3));
        check.answers("5: it is gone", -1, () -> x.decode(6));
        check.answers("5: behind it moves up", 1, () -> x.decode(9));
        check.answers("5: the last moves up", 2, () -> x.decode(15));
        check.answers("5: want moves up", 8, () -> x.told(1, 1));
        check.refuses("5: old last number", Check.NOT_THERE, () -> x.told(3, 0));
        check.answers("5: its words are free", 4, () -> x.free(0, 0));
        check.answers("5: comes again behind", 3, () -> x.add(0xf, 6));
        check.answers("5: care stands with its number", 0xf, () -> x.told(3, 0));
        x.drop(3);
        x.drop(0);
        check.answers("5: first gone", 0, () -> x.decode(9));
        x.drop(0);
        x.drop(0);
        check.answers("5: all gone", 0, () -> x.count(0));
        check.refuses("5: none left", Check.NOT_THERE, () -> x.drop(0));
    }

    private static void droppingWrongly() {
        PatternTree x = ofLength(4);
        x.add(1, 1);
        for (int i : new int[] {1, 2, -1, 511, 512, Integer.MIN_VALUE, Integer.MAX_VALUE}) {
            check.refuses("5: drop(" + i + ")", Check.NOT_THERE, () -> x.drop(i));
        }
        check.answers("5: refused leaves the pattern", 0, () -> x.decode(1));
        check.answers("5: refused leaves the count", 1, () -> x.count(0));
    }

    private static void decoding() {
        PatternTree x = ofLength(8);
        x.add(0x81, 0x80);
        x.add(0x81, 0x01);
        check.answers("6: first", 0, () -> x.decode(0xfe));
        check.answers("6: second", 1, () -> x.decode(0x7f));
        check.answers("6: none", -1, () -> x.decode(0xff));
        check.answers("6: none either", -1, () -> x.decode(0));
        check.answers("6: the lowest bits are the word", 0, () -> x.decode(0xabcd00feL));
        check.answers("6: of a number below 0", 0, () -> x.decode(-2));
        check.answers("6: never more than one", 0, () -> x.count(3));
        PatternTree y = ofLength(64);
        y.add(Long.MIN_VALUE, Long.MIN_VALUE);
        check.answers("6: highest of 64 bits", 0, () -> y.decode(-5));
        check.answers("6: highest of 64 bits 0", -1, () -> y.decode(5));
    }

    private static void meeting() {
        PatternTree x = ofLength(8);
        check.answers("7: no pattern", -1, () -> x.meets(0, 0));
        x.add(0xf0, 0x20);
        x.add(0xf0, 0x10);
        check.answers("7: first of two", 0, () -> x.meets(0x0f, 0x03));
        check.answers("7: second", 1, () -> x.meets(0x30, 0x10));
        check.answers("7: none", -1, () -> x.meets(0x30, 0x30));
        check.answers("7: beyond length", 1, () -> x.meets(0x1ff, 0x311));
        check.refuses("7: stray want", Check.BAD, () -> x.meets(0xf0, 0x01));
        check.answers("7: leaves the patterns", 2, () -> x.count(0));
        check.answers("7: leaves the clash", -1, () -> x.count(2));
        check.answers("7: what does not meet can come", 2, () -> x.add(0x30, 0x30));
    }

    private static void freeing() {
        PatternTree x = ofLength(8);
        x.add(0xf0, 0x10);
        x.add(0x8f, 0x8f);
        check.answers("8: of all words", 256 - 16 - 8, () -> x.free(0, 0));
        check.answers("8: where one is in part", 16 * 8 - 8, () -> x.free(0x80, 0x80));
        check.answers("8: where one is whole", 16 * 8 - 16, () -> x.free(0x80, 0));
        check.answers("8: across both", 16 - 8 - 1, () -> x.free(0x0f, 0x0f));
        check.answers("8: within one", 0, () -> x.free(0xff, 0x15));
        check.answers("8: a free word", 1, () -> x.free(0xff, 0x25));
        check.answers("8: beyond length", 16 - 8 - 1, () -> x.free(-1L << 8 | 0x0f, 0x70f));
        check.refuses("8: stray want", Check.BAD, () -> x.free(0x0f, 0x10));
        check.refuses("8: want without care", Check.BAD, () -> x.free(0, 1));
        check.answers("8: changes nothing", 2, () -> x.count(0));
        check.answers("8: leaves the clash", -1, () -> x.count(2));
        x.drop(0);
        check.answers("8: free again behind drop", 256 - 8, () -> x.free(0, 0));
    }

    private static void freeingAllWords() {
        PatternTree x = ofLength(64);
        check.answers("8: 2^64 as 0", 0, () -> x.free(0, 0));
        check.answers("8: 2^63", Long.MIN_VALUE, () -> x.free(4, 4));
        check.answers("8: one word", 1, () -> x.free(-1, 7));
        x.add(-1, 7);
        check.answers("8: 2^64 but one", -1, () -> x.free(0, 0));
        check.answers("8: 2^63 but one", Long.MAX_VALUE, () -> x.free(4, 4));
        check.answers("8: not that word", 0, () -> x.free(-1, 7));
        x.clear(64);
        x.add(0, 0);
        check.answers("8: none of 2^64", 0, () -> x.free(0, 0));
        check.answers("8: none of 2^63", 0, () -> x.free(1, 1));
        x.clear(63);
        check.answers("8: length 63", Long.MIN_VALUE, () -> x.free(0, 0));
        x.add(0, 0);
        check.answers("8: length 63 taken", 0, () -> x.free(0, 0));
        x.clear(1);
        check.answers("8: length 1", 2, () -> x.free(0, 0));
        x.add(1, 1);
        check.answers("8: length 1, one free", 1, () -> x.free(0, 0));
        check.answers("8: length 1, other taken", 0, () -> x.free(1, 1));
    }

    private static void nexting() {
        PatternTree x = ofLength(8);
        check.answers("9: itself", 77, () -> x.next(77));
        x.add(0xf0, 0x00);
        x.add(0xf1, 0x10);
        x.add(0xff, 0xff);
        check.answers("9: behind a block", 0x11, () -> x.next(0));
        check.answers("9: one on", 0x13, () -> x.next(0x12));
        check.answers("9: itself among patterns", 0x13, () -> x.next(0x13));
        check.answers("9: itself at the end", 0xfe, () -> x.next(0xfe));
        check.refuses("9: none behind", Check.NOT_THERE, () -> x.next(0xff));
        check.refuses("9: lowest bits are the word", Check.NOT_THERE, () -> x.next(-1));
        check.answers("9: bits beyond length", 0x11, () -> x.next(0x705));
        check.answers("9: changes nothing", 3, () -> x.count(0));
        check.answers("9: leaves the clash", -1, () -> x.count(2));
        PatternTree one = ofLength(1);
        one.add(1, 0);
        check.answers("9: length 1", 1, () -> one.next(0));
        one.add(1, 1);
        check.refuses("9: length 1, none", Check.NOT_THERE, () -> one.next(0));
    }

    private static void nextingFarAway() {
        PatternTree x = ofLength(64);
        x.add(1, 0);
        x.add(Long.MIN_VALUE | 1, 1);
        check.answers("9: over 2^63 words", Long.MIN_VALUE | 1, () -> x.next(0));
        check.answers("9: without sign", Long.MIN_VALUE | 1, () -> x.next(Long.MAX_VALUE));
        check.answers("9: last word", -1, () -> x.next(-2));
        check.answers("9: last word itself", -1, () -> x.next(-1));
        x.add(-1, -1);
        check.refuses("9: last word taken", Check.NOT_THERE, () -> x.next(-1));
        check.answers("9: last free", -3, () -> x.next(-4));
        check.refuses("9: behind the last free", Check.NOT_THERE, () -> x.next(-2));
        x.clear(64);
        x.add(0, 0);
        check.refuses("9: one of all words", Check.NOT_THERE, () -> x.next(0));
        x.clear(64);
        x.add(Long.MIN_VALUE, Long.MIN_VALUE);
        check.answers("9: lower half free", Long.MAX_VALUE, () -> x.next(Long.MAX_VALUE));
        check.refuses("9: not round the end", Check.NOT_THERE, () -> x.next(Long.MIN_VALUE));
        x.clear(64);
        x.add(Long.MIN_VALUE, 0);
        check.answers("9: upper half free", Long.MIN_VALUE, () -> x.next(3));
        check.answers("9: within the upper half", -9, () -> x.next(-9));
    }

    private static void telling() {
        PatternTree x = ofLength(64);
        x.add(-1, Long.MIN_VALUE);
        x.add(Long.MIN_VALUE | 6, 4);
        check.answers("10: care", -1, () -> x.told(0, 0));
        check.answers("10: want", Long.MIN_VALUE, () -> x.told(0, 1));
        check.answers("10: open", 0, () -> x.told(0, 2));
        check.answers("10: care of the second", Long.MIN_VALUE | 6, () -> x.told(1, 0));
        check.answers("10: want of the second", 4, () -> x.told(1, 1));
        check.answers("10: open of the second", 61, () -> x.told(1, 2));
        x.clear(5);
        x.add(-1L << 3, 0xf0f0);
        check.answers("10: care within length", 0x18, () -> x.told(0, 0));
        check.answers("10: want within length", 0x10, () -> x.told(0, 1));
        check.answers("10: open within length", 3, () -> x.told(0, 2));
        x.clear(64);
        x.add(0, 0);
        check.answers("10: all open", 64, () -> x.told(0, 2));
    }

    private static void tellingWrongly() {
        PatternTree x = ofLength(5);
        x.add(1, 1);
        for (int i : new int[] {1, -1, 512, Integer.MIN_VALUE, Integer.MAX_VALUE}) {
            for (int what = 0; what < 3; what++) {
                int asked = what;
                check.refuses("10: told(" + i + ", " + what + ")", Check.NOT_THERE, () -> x.told(i, asked));
            }
            check.refuses("10: bad before not there", Check.BAD, () -> x.told(i, 3));
        }
        for (int what : new int[] {3, -1, Integer.MIN_VALUE, Integer.MAX_VALUE}) {
            check.refuses("10: told(0, " + what + ")", Check.BAD, () -> x.told(0, what));
        }
        check.answers("10: changes nothing", 1, () -> x.count(0));
    }

    private static void counting() {
        PatternTree x = ofLength(9);
        x.add(1, 1);
        x.add(3, 0);
        x.decode(1);
        x.decode(1);
        check.answers("11: patterns", 2, () -> x.count(0));
        check.answers("11: length", 9, () -> x.count(1));
        check.answers("11: no clash", -1, () -> x.count(2));
        check.answers("11: no surplus", 0, () -> x.count(3));
        for (int what : new int[] {4, 5, -1, -2, Integer.MIN_VALUE, Integer.MAX_VALUE}) {
            check.answers("11: count(" + what + ")", -1, () -> x.count(what));
        }
    }

    private static void countingClashes() {
        PatternTree x = ofLength(9);
        x.add(3, 0);
        x.add(3, 1);
        x.add(3, 2);
        check.refuses("11: clash", Check.REFUSED, () -> x.add(2, 2));
        check.answers("11: with", 2, () -> x.count(2));
        x.add(3, 3);
        check.answers("11: a pattern that comes leaves it", 2, () -> x.count(2));
        check.refuses("11: clash by signs", Check.REFUSED, () -> x.signs(1));
        check.answers("11: the latest", 1, () -> x.count(2));
        x.decode(0);
        x.meets(3, 3);
        x.free(3, 3);
        check.refuses("11: not there", Check.NOT_THERE, () -> x.drop(4));
        check.refuses("11: bad", Check.BAD, () -> x.meets(1, 2));
        check.answers("11: other calls leave it", 1, () -> x.count(2));
        x.drop(0);
        x.drop(0);
        check.answers("11: drop leaves it", 1, () -> x.count(2));
        x.clear(3);
        check.answers("11: clear leaves it", 1, () -> x.count(2));
        x.add(0, 0);
        check.refuses("11: clash anew", Check.REFUSED, () -> x.add(0, 0));
        check.answers("11: with the first", 0, () -> x.count(2));
    }
}

/** The promises one by one with ordinary inputs; their edges are in TermsTest and BoundaryTest. */
public final class PromiseTest {
    private static final Check check = new Check();

    public static void main(String[] args) {
        clearing();
        adding();
        signing();
        dropping();
        decoding();
        meeting();
        freeing();
        nexting();
        telling();
        counting();
        check.end("PromiseTest");
    }

    private static void clearing() {
        PatternTree x = new PatternTree();
        x.add(1, 0);
        x.add(1, 1);
        x.clear(64);
        check.answers("2: no patterns", 0, () -> x.count(0));
        check.answers("2: length 64", 64, () -> x.count(1));
        check.answers("2: nothing decodes", -1, () -> x.decode(1));
        check.refuses("2: nothing told", Check.NOT_THERE, () -> x.told(0, 0));
        check.answers("2: numbers begin anew", 0, () -> x.add(1, 1));
        for (int n = 1; n <= 64; n++) {
            int bits = n;
            x.clear(n);
            check.answers("2: length " + n, n, () -> x.count(1));
            check.answers("2: words of length " + n, n == 64 ? 0 : 1L << n, () -> x.free(0, 0));
            check.answers("2: last word of length " + n, -1L >>> (64 - bits), () -> x.next(-1));
        }
    }

    private static void adding() {
        PatternTree x = Trees.ofLength(8);
        check.answers("3: first", 0, () -> x.add(0xf0, 0x00));
        check.answers("3: second", 1, () -> x.add(0xf0, 0x10));
        check.answers("3: one word", 2, () -> x.add(0xff, 0xff));
        check.refuses("3: the same again", Check.REFUSED, () -> x.add(0xf0, 0x10));
        check.answers("3: clashed with", 1, () -> x.count(2));
        check.refuses("3: within another", Check.REFUSED, () -> x.add(0xff, 0x13));
        check.refuses("3: round another", Check.REFUSED, () -> x.add(0x80, 0x80));
        check.answers("3: clashed with the last", 2, () -> x.count(2));
        check.refuses("3: across others", Check.REFUSED, () -> x.add(0x0f, 0x03));
        check.answers("3: clashed with the first of two", 0, () -> x.count(2));
        check.answers("3: refused ones did not come", 3, () -> x.count(0));
        check.answers("3: next to others", 3, () -> x.add(0xf1, 0xf0));
        check.answers("3: decodes", 3, () -> x.decode(0xfe));
        PatternTree all = Trees.ofLength(64);
        check.answers("3: open in all bits", 0, () -> all.add(0, 0));
        check.refuses("3: nothing beside it", Check.REFUSED, () -> all.add(-1, -1));
    }

    private static void signing() {
        PatternTree x = Trees.ofLength(4);
        check.answers("4: 0120", 0, () -> x.signs(Trees.signsOf("0120")));
        check.answers("4: care of 0120", 0b1101, () -> x.told(0, 0));
        check.answers("4: want of 0120", 0b0100, () -> x.told(0, 1));
        check.answers("4: 1222", 1, () -> x.signs(Trees.signsOf("1222")));
        check.answers("4: open bits of 1222", 3, () -> x.told(1, 2));
        check.refuses("4: clash", Check.REFUSED, () -> x.signs(Trees.signsOf("2110")));
        check.answers("4: clashed with", 0, () -> x.count(2));
        check.refuses("4: clash with the second", Check.REFUSED, () -> x.signs(Trees.signsOf("1011")));
        check.answers("4: clashed with the second", 1, () -> x.count(2));
        check.answers("4: refused ones did not come", 2, () -> x.count(0));
        check.answers("4: 0 is all bits 0", 2, () -> x.signs(0));
        check.answers("4: it is the word 0", 2, () -> x.decode(0));
        check.answers("4: and that alone", 0b1111, () -> x.told(2, 0));
    }

    private static void dropping() {
        PatternTree x = Trees.ofLength(4);
        for (int i = 0; i < 4; i++) {
            x.add(0xc, i << 2);
        }
        x.drop(1);
        check.answers("5: one less", 3, () -> x.count(0));
        check.answers("5: before it stays", 0, () -> x.decode(3));
        check.answers("5: it is gone", -1, () -> x.decode(6));
        check.answers("5: behind it moves up", 1, () -> x.decode(9));
        check.answers("5: the last moves up", 2, () -> x.decode(15));
        check.answers("5: want moves up", 8, () -> x.told(1, 1));
        check.refuses("5: old last number", Check.NOT_THERE, () -> x.told(3, 0));
        check.answers("5: its words are free", 4, () -> x.free(0, 0));
        check.answers("5: comes again behind", 3, () -> x.add(0xf, 6));
        check.answers("5: care stands with its number", 0xf, () -> x.told(3, 0));
        x.drop(3);
        x.drop(0);
        check.answers("5: first gone", 0, () -> x.decode(9));
        x.drop(0);
        x.drop(0);
        check.answers("5: all gone", 0, () -> x.count(0));
        check.refuses("5: none left", Check.NOT_THERE, () -> x.drop(0));
    }

    private static void decoding() {
        PatternTree x = Trees.ofLength(8);
        x.add(0x81, 0x80);
        x.add(0x81, 0x01);
        check.answers("6: first", 0, () -> x.decode(0xfe));
        check.answers("6: second", 1, () -> x.decode(0x7f));
        check.answers("6: none", -1, () -> x.decode(0xff));
        check.answers("6: none either", -1, () -> x.decode(0));
        check.answers("6: the lowest bits are the word", 0, () -> x.decode(0xabcd00feL));
        check.answers("6: of a number below 0", 0, () -> x.decode(-2));
        check.answers("6: never more than one", 0, () -> x.count(3));
        PatternTree y = Trees.ofLength(64);
        y.add(Long.MIN_VALUE, Long.MIN_VALUE);
        check.answers("6: highest of 64 bits", 0, () -> y.decode(-5));
        check.answers("6: highest of 64 bits 0", -1, () -> y.decode(5));
    }

    private static void meeting() {
        PatternTree x = Trees.ofLength(8);
        check.answers("7: no pattern", -1, () -> x.meets(0, 0));
        x.add(0xf0, 0x20);
        x.add(0xf0, 0x10);
        check.answers("7: first of two", 0, () -> x.meets(0x0f, 0x03));
        check.answers("7: second", 1, () -> x.meets(0x30, 0x10));
        check.answers("7: none", -1, () -> x.meets(0x30, 0x30));
        check.answers("7: beyond length", 1, () -> x.meets(0x1ff, 0x311));
        check.refuses("7: stray want", Check.BAD, () -> x.meets(0xf0, 0x01));
        check.answers("7: leaves the patterns", 2, () -> x.count(0));
        check.answers("7: leaves the clash", -1, () -> x.count(2));
        check.answers("7: what does not meet can come", 2, () -> x.add(0x30, 0x30));
    }

    private static void freeing() {
        PatternTree x = Trees.ofLength(8);
        x.add(0xf0, 0x10);
        x.add(0x8f, 0x8f);
        check.answers("8: of all words", 256 - 16 - 8, () -> x.free(0, 0));
        check.answers("8: where one is in part", 16 * 8 - 8, () -> x.free(0x80, 0x80));
        check.answers("8: where one is whole", 16 * 8 - 16, () -> x.free(0x80, 0));
        check.answers("8: across both", 16 - 8 - 1, () -> x.free(0x0f, 0x0f));
        check.answers("8: within one", 0, () -> x.free(0xff, 0x15));
        check.answers("8: a free word", 1, () -> x.free(0xff, 0x25));
        check.answers("8: beyond length", 16 - 8 - 1, () -> x.free(-1L << 8 | 0x0f, 0x70f));
        check.refuses("8: stray want", Check.BAD, () -> x.free(0x0f, 0x10));
        check.refuses("8: want without care", Check.BAD, () -> x.free(0, 1));
        check.answers("8: changes nothing", 2, () -> x.count(0));
        check.answers("8: leaves the clash", -1, () -> x.count(2));
        x.drop(0);
        check.answers("8: free again behind drop", 256 - 8, () -> x.free(0, 0));
    }

    private static void nexting() {
        PatternTree x = Trees.ofLength(8);
        check.answers("9: itself", 77, () -> x.next(77));
        x.add(0xf0, 0x00);
        x.add(0xf1, 0x10);
        x.add(0xff, 0xff);
        check.answers("9: behind a block", 0x11, () -> x.next(0));
        check.answers("9: one on", 0x13, () -> x.next(0x12));
        check.answers("9: itself among patterns", 0x13, () -> x.next(0x13));
        check.answers("9: itself at the end", 0xfe, () -> x.next(0xfe));
        check.refuses("9: none behind", Check.NOT_THERE, () -> x.next(0xff));
        check.refuses("9: lowest bits are the word", Check.NOT_THERE, () -> x.next(-1));
        check.answers("9: bits beyond length", 0x11, () -> x.next(0x705));
        check.answers("9: changes nothing", 3, () -> x.count(0));
        check.answers("9: leaves the clash", -1, () -> x.count(2));
        PatternTree one = Trees.ofLength(1);
        one.add(1, 0);
        check.answers("9: length 1", 1, () -> one.next(0));
        one.add(1, 1);
        check.refuses("9: length 1, none", Check.NOT_THERE, () -> one.next(0));
    }

    private static void telling() {
        PatternTree x = Trees.ofLength(64);
        x.add(-1, Long.MIN_VALUE);
        x.add(Long.MIN_VALUE | 6, 4);
        check.answers("10: care", -1, () -> x.told(0, 0));
        check.answers("10: want", Long.MIN_VALUE, () -> x.told(0, 1));
        check.answers("10: open", 0, () -> x.told(0, 2));
        check.answers("10: care of the second", Long.MIN_VALUE | 6, () -> x.told(1, 0));
        check.answers("10: want of the second", 4, () -> x.told(1, 1));
        check.answers("10: open of the second", 61, () -> x.told(1, 2));
        x.clear(5);
        x.add(-1L << 3, 0xf0f0);
        check.answers("10: care within length", 0x18, () -> x.told(0, 0));
        check.answers("10: want within length", 0x10, () -> x.told(0, 1));
        check.answers("10: open within length", 3, () -> x.told(0, 2));
        x.clear(64);
        x.add(0, 0);
        check.answers("10: all open", 64, () -> x.told(0, 2));
    }

    private static void counting() {
        PatternTree x = Trees.ofLength(9);
        x.add(1, 1);
        x.add(3, 0);
        x.decode(1);
        x.decode(1);
        check.answers("11: patterns", 2, () -> x.count(0));
        check.answers("11: length", 9, () -> x.count(1));
        check.answers("11: no clash", -1, () -> x.count(2));
        check.answers("11: no surplus", 0, () -> x.count(3));
        for (int what : new int[] {4, 5, -1, -2, Integer.MIN_VALUE, Integer.MAX_VALUE}) {
            check.answers("11: count(" + what + ")", -1, () -> x.count(what));
        }
    }
}

/** The sentences of "What it is" and of "Terms" that name a boundary case, each with its own test. */
public final class TermsTest {
    private static final int PROMISED_CALLS = 512;
    private static final Check check = new Check();

    public static void main(String[] args) {
        check.sentence("What it is", "An object is used for at most 512 calls after it has been made",
                TermsTest::callsPromised);
        check.sentence("Terms", "LENGTH is 1 .. 64 bits (32 at first)", TermsTest::lengths);
        check.sentence("Terms", "A WORD is a number of so many bits, without sign",
                TermsTest::wordsWithoutSign);
        check.sentence("Terms", "of a long given, the lowest bits are it", TermsTest::wordsAreTheLowestBits);
        check.sentence("Terms", "bits beyond LENGTH do not count, also where WANT is looked at",
                TermsTest::bitsBeyondLength);
        check.sentence("Terms", "a WORD is one of it if its bits that are 1 in CARE are as in WANT",
                TermsTest::wordsOfAPattern);
        check.sentence("Terms", "what is 1 in WANT must be so in CARE", TermsTest::wantWithoutCare);
        check.sentence("Terms", "Two PATTERNS CLASH if a WORD can be of both", TermsTest::clashes);
        check.sentence("Terms", "PATTERNS have the numbers 0, 1, .. in their order, at most 512",
                TermsTest::numbersUpTo512);
        check.sentence("Terms", "none CLASH", TermsTest::noneClash);
        check.sentence("Terms", "Bad is IllegalArgumentException; REFUSED is IllegalStateException, "
                + "not there java.util.NoSuchElementException",
                TermsTest::whatIsThrown);
        check.sentence("Terms", "A refused call changes nothing", TermsTest::refusedChangesNothing);
        check.sentence("Terms", "A refused call changes nothing (but clash)",
                TermsTest::refusedChangesTheClashAlone);
        check.sentence("Terms", "Bad comes before REFUSED", TermsTest::badBeforeRefused);
        check.sentence("Terms", "Bad comes before .. not there", TermsTest::badBeforeNotThere);
        check.end("TermsTest");
    }

    private static void callsPromised() {
        check.answers("add", 511, () -> oneCallLeft().add(0x3ff, 0));
        check.answers("signs", 511, () -> oneCallLeft().signs(0));
        check.refuses("add that clashes", Check.REFUSED, () -> oneCallLeft().add(0, 0));
        check.refuses("drop", Check.NOTHING, () -> oneCallLeft().drop(510));
        check.refuses("drop of none", Check.NOT_THERE, () -> oneCallLeft().drop(511));
        check.answers("decode", 510, () -> oneCallLeft().decode(511));
        check.answers("meets", 510, () -> oneCallLeft().meets(0x3ff, 511));
        check.answers("free", (1L << 32) - 511 * (1L << 22), () -> oneCallLeft().free(0, 0));
        check.answers("next", 512, () -> oneCallLeft().next(1));
        check.answers("told", 511, () -> oneCallLeft().told(510, 1));
        check.answers("count", 511, () -> oneCallLeft().count(0));
        check.refuses("clear", Check.NOTHING, () -> oneCallLeft().clear(1));
    }

    private static PatternTree oneCallLeft() {
        PatternTree x = new PatternTree();
        for (int call = 1; call < PROMISED_CALLS; call++) {
            x.add(0x3ff, call);
        }
        return x;
    }

    private static void lengths() {
        PatternTree fresh = new PatternTree();
        check.answers("at first", 32, () -> fresh.count(1));
        check.answers("words at first", 1L << 32, () -> fresh.free(0, 0));
        check.answers("last word at first", 0xffffffffL, () -> fresh.next(-1));
        for (int n = 1; n <= 64; n++) {
            PatternTree x = Trees.ofLength(n);
            long last = -1L >>> (64 - n);
            check.answers("length " + n, n, () -> x.count(1));
            check.answers("words of " + n, last + 1, () -> x.free(0, 0));
            check.answers("last word of " + n, last, () -> x.next(-1));
            check.answers("highest bit of " + n, 0, () -> x.add(last, last));
            check.answers("all bits told of " + n, last, () -> x.told(0, 0));
            check.answers("one word less of " + n, last, () -> x.free(0, 0));
            check.refuses("none behind the last of " + n, Check.NOT_THERE, () -> x.next(last));
        }
    }

    private static void wordsWithoutSign() {
        PatternTree x = Trees.ofLength(32);
        check.answers("highest of 32 bits in next", 0x80000000L, () -> x.next(0x80000000L));
        check.answers("add", 0, () -> x.add(-1, Integer.MIN_VALUE));
        check.answers("highest of 32 bits in care", 0xffffffffL, () -> x.told(0, 0));
        check.answers("highest of 32 bits in want", 0x80000000L, () -> x.told(0, 1));
        PatternTree y = Trees.ofLength(63);
        check.answers("63 bits are never below 0", Long.MAX_VALUE, () -> y.next(-1));
        check.answers("nor in care", 0, () -> y.add(-1, -1));
        check.answers("care", Long.MAX_VALUE, () -> y.told(0, 0));
        check.answers("want", Long.MAX_VALUE, () -> y.told(0, 1));
        PatternTree z = Trees.ofLength(64);
        z.add(-1, Long.MAX_VALUE);
        check.answers("2^63 - 1 comes before 2^63", Long.MIN_VALUE, () -> z.next(Long.MAX_VALUE));
    }

    private static void wordsAreTheLowestBits() {
        PatternTree x = Trees.ofLength(1);
        x.add(1, 0);
        check.answers("decode of 2 with 1 bit", 0, () -> x.decode(2));
        check.answers("decode of -2 with 1 bit", 0, () -> x.decode(-2));
        check.answers("decode of -1 with 1 bit", -1, () -> x.decode(-1));
        check.answers("next of 2 with 1 bit", 1, () -> x.next(2));
        PatternTree y = Trees.ofLength(8);
        y.add(0xff, 0xfe);
        check.answers("decode beyond 8 bits", 0, () -> y.decode(0x1fe));
        check.answers("decode below 0", 0, () -> y.decode(-2));
        check.answers("next beyond 8 bits", 0xff, () -> y.next(0x7fe));
        check.answers("next starts over behind the last word", 0, () -> y.next(256));
        PatternTree z = Trees.ofLength(63);
        z.add(-1, 5);
        check.answers("decode with the 64th bit", 0, () -> z.decode(Long.MIN_VALUE | 5));
        check.answers("next with the 64th bit", 6, () -> z.next(Long.MIN_VALUE | 5));
        z.clear(64);
        z.add(-1, 5);
        check.answers("decode where the 64th bit counts", -1, () -> z.decode(Long.MIN_VALUE | 5));
        check.answers("next where the 64th bit counts", Long.MIN_VALUE | 5, () -> z.next(Long.MIN_VALUE | 5));
    }

    private static void bitsBeyondLength() {
        PatternTree x = Trees.ofLength(4);
        check.answers("want beyond, care not", 0, () -> x.add(0b0011, 0b110001));
        check.answers("care beyond, want not", 1, () -> x.add(0b110011, 0b0010));
        check.answers("both beyond", 2, () -> x.add(-1, 0b11110000));
        check.answers("no care kept from beyond", 0b0011, () -> x.told(1, 0));
        check.answers("no want kept from beyond", 0b0001, () -> x.told(0, 1));
        check.answers("open bits are those of the length", 0, () -> x.told(2, 2));
        check.refuses("add that is apart beyond alone", Check.REFUSED, () -> x.add(0b010011, 0b010001));
        check.answers("meets, want beyond", 0, () -> x.meets(0b0011, -15));
        check.answers("meets, care beyond", 1, () -> x.meets(0b110011, 0b100010));
        check.answers("free, want beyond", 0, () -> x.free(0b0011, -15));
        check.answers("free, care beyond", 4, () -> x.free(0b110011, 0b100011));
        check.answers("free, care beyond alone", 16 - 9, () -> x.free(-16, 16));
        PatternTree y = Trees.ofLength(63);
        check.answers("64th bit of want", 0, () -> y.add(1, Long.MIN_VALUE | 1));
        check.refuses("apart in the 64th bit alone", Check.REFUSED, () -> y.add(Long.MIN_VALUE | 1, 1));
        check.answers("meets by the 64th bit of want", 0, () -> y.meets(0, Long.MIN_VALUE));
        check.answers("free by the 64th bit of want", 1L << 62, () -> y.free(0, Long.MIN_VALUE));
    }

    private static void wordsOfAPattern() {
        PatternTree all = Trees.ofLength(64);
        all.add(0, 0);
        check.answers("no care: the least word", 0, () -> all.decode(0));
        check.answers("no care: the greatest word", 0, () -> all.decode(-1));
        PatternTree one = Trees.ofLength(64);
        one.add(-1, 0);
        check.answers("all care: its word", 0, () -> one.decode(0));
        for (int at = 0; at < 64; at++) {
            long off = 1L << at;
            check.answers("all care: bit " + at + " off", -1, () -> one.decode(off));
        }
        PatternTree some = Trees.ofLength(4);
        some.add(0b0110, 0b0010);
        for (int word = 0; word < 16; word++) {
            int asked = word;
            check.answers("0110/0010: " + word, (word >> 1 & 3) == 1 ? 0 : -1, () -> some.decode(asked));
        }
    }

    private static void wantWithoutCare() {
        for (int n : new int[] {1, 8, 32, 63, 64}) {
            PatternTree x = Trees.ofLength(n);
            long top = 1L << (n - 1);
            check.refuses("add, lowest bit of " + n, Check.BAD, () -> x.add(~1L, 1));
            check.refuses("add, highest bit of " + n, Check.BAD, () -> x.add(~top, top));
            check.refuses("meets, highest bit of " + n, Check.BAD, () -> x.meets(~top, top));
            check.refuses("free, highest bit of " + n, Check.BAD, () -> x.free(~top, top));
            check.refuses("add, all bits of " + n, Check.BAD, () -> x.add(0, -1));
            check.answers("0 in want, 1 in care of " + n, 0, () -> x.add(-1, 0));
            check.answers("1 in both of " + n, 1, () -> x.add(-1, top));
        }
    }

    private static void clashes() {
        clash(true, 0, 0, 0, 0);
        clash(true, 0, 0, -1, -1);
        clash(true, -1, 7, -1, 7);
        clash(true, 0b01, 0b01, 0b10, 0b00);
        clash(true, 0b011, 0b001, 0b110, 0b100);
        clash(true, 0b111, 0b101, 0b001, 0b001);
        clash(false, 0b011, 0b001, 0b110, 0b110);
        clash(false, 1, 0, 1, 1);
        for (int at = 0; at < 64; at++) {
            clash(false, -1, 7, -1, 7 ^ 1L << at);
            clash(false, 1L << at, 0, -1, -1);
            clash(true, ~(1L << at), 0, 1L << at, 1L << at);
        }
    }

    private static void clash(boolean due, long care, long want, long otherCare, long otherWant) {
        PatternTree x = Trees.ofLength(64);
        x.add(care, want);
        String pair = care + "/" + want + " and " + otherCare + "/" + otherWant;
        check.answers("meets, " + pair, due ? 0 : -1, () -> x.meets(otherCare, otherWant));
        check.refuses("add, " + pair, due ? Check.REFUSED : Check.NOTHING, () -> x.add(otherCare, otherWant));
    }

    private static void numbersUpTo512() {
        PatternTree x = new PatternTree();
        for (int i = 0; i < 255; i++) {
            int number = i;
            check.answers("add " + i, i, () -> x.add(0x3ff, number ^ 0x155));
        }
        for (int i = 0; i < 255; i++) {
            int number = i;
            check.answers("want of " + i, i ^ 0x155, () -> x.told(number, 1));
        }
        check.answers("how many", 255, () -> x.count(0));
        PatternTree full = new PatternTree();
        for (int i = 0; i < PROMISED_CALLS; i++) {
            int number = i;
            check.answers("full: add " + i, i, () -> full.add(0x3ff, number));
        }
        // These are calls beyond the promised ones; only they can show that no pattern comes more.
        for (int i = 512; i < 600; i++) {
            int number = i;
            check.refuses("full: add " + i, Check.REFUSED, () -> full.add(0x3ff, number));
        }
        check.answers("full: how many", 512, () -> full.count(0));
    }

    private static void noneClash() {
        PatternTree x = Trees.ofLength(5);
        for (int i = 0; i < 243; i++) {
            long digits = i * 100L % 243;
            Check.thrownBy(() -> x.signs(digits));
        }
        int patterns = x.count(0);
        long[] care = new long[patterns];
        long[] want = new long[patterns];
        long words = 0;
        for (int i = 0; i < patterns; i++) {
            care[i] = x.told(i, 0);
            want[i] = x.told(i, 1);
            words += 1L << x.told(i, 2);
            for (int j = 0; j < i; j++) {
                boolean apart = (care[i] & care[j] & (want[i] ^ want[j])) != 0;
                check.same(i + " and " + j, "apart", apart ? "apart" : "clash");
            }
        }
        // Every word alone was asked for too, so those that could come fill all 32.
        check.same("words of all " + patterns, "32", "" + words);
    }

    private static void whatIsThrown() {
        PatternTree x = Trees.ofThree();
        check.same("bad", "class java.lang.IllegalArgumentException", classThrownBy(() -> x.clear(0)));
        check.same("refused", "class java.lang.IllegalStateException", classThrownBy(() -> x.add(0, 0)));
        check.same("not there", "class java.util.NoSuchElementException", classThrownBy(() -> x.drop(3)));
        check.same("no word there", "class java.util.NoSuchElementException", classThrownBy(() -> x.next(15)));
        check.same("nothing to tell", "class java.util.NoSuchElementException", classThrownBy(() -> x.told(3, 0)));
    }

    private static String classThrownBy(Check.Deed deed) {
        try {
            deed.run();
            return Check.NOTHING;
        } catch (RuntimeException e) {
            return e.getClass().toString();
        }
    }

    private static void refusedChangesNothing() {
        PatternTree x = Trees.ofThree();
        unchanged("clear(0)", Check.BAD, x, () -> x.clear(0));
        unchanged("clear(65)", Check.BAD, x, () -> x.clear(65));
        unchanged("add(0, 2)", Check.BAD, x, () -> x.add(0, 2));
        unchanged("signs(-1)", Check.BAD, x, () -> x.signs(-1));
        unchanged("meets(1, 2)", Check.BAD, x, () -> x.meets(1, 2));
        unchanged("free(1, 2)", Check.BAD, x, () -> x.free(1, 2));
        unchanged("told(0, 3)", Check.BAD, x, () -> x.told(0, 3));
        PatternTree y = Trees.ofThree();
        unchanged("add(0, 0)", Check.REFUSED, y, () -> y.add(0, 0));
        unchanged("add(15, 15)", Check.REFUSED, y, () -> y.add(15, 15));
        unchanged("signs(0)", Check.REFUSED, y, () -> y.signs(0));
        unchanged("drop(-1)", Check.NOT_THERE, y, () -> y.drop(-1));
        unchanged("drop(3)", Check.NOT_THERE, y, () -> y.drop(3));
        unchanged("next(15)", Check.NOT_THERE, y, () -> y.next(15));
        unchanged("told(3, 0)", Check.NOT_THERE, y, () -> y.told(3, 0));
        check.answers("the next one comes as if none had been refused", 3, () -> y.add(0b1101, 0b0101));
        check.answers("and is told", 0b1101, () -> y.told(3, 0));
    }

    private static void unchanged(String call, String due, PatternTree x, Check.Deed deed) {
        String before = Trees.stateOf(x);
        check.refuses(call, due, deed);
        check.same("state after " + call, before, Trees.stateOf(x));
    }

    private static void refusedChangesTheClashAlone() {
        PatternTree x = Trees.ofThree();
        check.refuses("add", Check.REFUSED, () -> x.add(0b1111, 0b0100));
        check.answers("clash by add", 1, () -> x.count(2));
        check.refuses("signs", Check.REFUSED, () -> x.signs(Trees.signsOf("1221")));
        check.answers("clash by signs", 2, () -> x.count(2));
        leavesClash(x, "clear(0)", () -> x.clear(0));
        leavesClash(x, "add(0, 2)", () -> x.add(0, 2));
        leavesClash(x, "signs(-1)", () -> x.signs(-1));
        leavesClash(x, "meets(1, 2)", () -> x.meets(1, 2));
        leavesClash(x, "free(1, 2)", () -> x.free(1, 2));
        leavesClash(x, "told(0, 3)", () -> x.told(0, 3));
        leavesClash(x, "drop(3)", () -> x.drop(3));
        leavesClash(x, "next(15)", () -> x.next(15));
        leavesClash(x, "told(3, 0)", () -> x.told(3, 0));
    }

    private static void leavesClash(PatternTree x, String call, Check.Deed deed) {
        check.same(call + " is refused", "true", "" + !Check.thrownBy(deed).equals(Check.NOTHING));
        check.answers("clash after " + call, 2, () -> x.count(2));
    }

    private static void badBeforeRefused() {
        PatternTree x = Trees.ofLength(4);
        x.add(0, 0);
        check.refuses("add that clashes with all", Check.BAD, () -> x.add(0b1110, 0b0001));
        check.refuses("signs that clash with all", Check.BAD, () -> x.signs(-1));
        check.answers("no clash by them", -1, () -> x.count(2));
        PatternTree full = oneCallLeft();
        full.add(0x3ff, 0);
        check.refuses("add to 512", Check.BAD, () -> full.add(0x3fe, 1));
        check.refuses("signs to 512", Check.BAD, () -> full.signs(Long.MIN_VALUE));
    }

    private static void badBeforeNotThere() {
        PatternTree x = new PatternTree();
        for (int what : new int[] {-1, 3, Integer.MIN_VALUE, Integer.MAX_VALUE}) {
            for (int i : new int[] {-1, 0, 512, Integer.MIN_VALUE, Integer.MAX_VALUE}) {
                check.refuses("told(" + i + ", " + what + ")", Check.BAD, () -> x.told(i, what));
            }
        }
    }
}

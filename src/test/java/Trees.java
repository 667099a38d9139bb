/** Objects to test with, and all that can be seen of one. */
final class Trees {
    private Trees() {
    }

    static PatternTree ofLength(int n) {
        PatternTree x = new PatternTree();
        x.clear(n);
        return x;
    }

    /** Of 4 bits: 00.. is 0, 0100 is 1, 1..1 is 2; the words 0101 to 0111 and 1..0 are free. */
    static PatternTree ofThree() {
        PatternTree x = ofLength(4);
        x.add(0b1100, 0b0000);
        x.add(0b1111, 0b0100);
        x.add(0b1001, 0b1001);
        return x;
    }

    /** All but count(2), which a refused call may change. For lengths that have few words. */
    static String stateOf(PatternTree x) {
        StringBuilder seen = new StringBuilder();
        int patterns = x.count(0);
        int length = x.count(1);
        seen.append(patterns).append(" of ").append(length).append(" bits, ").append(x.count(3)).append(':');
        for (int i = 0; i < patterns; i++) {
            seen.append(' ').append(x.told(i, 0)).append('/').append(x.told(i, 1)).append('/').append(x.told(i, 2));
        }
        seen.append("; decode");
        for (int word = 0; word < 1 << length; word++) {
            seen.append(' ').append(x.decode(word));
        }
        return seen.append("; free ").append(x.free(0, 0)).toString();
    }

    /** The number whose digits to the base of three are these signs. */
    static long signsOf(String signs) {
        return Long.parseLong(signs, 3);
    }
}

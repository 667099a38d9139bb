/** Compares answers with what is due, and tells by the exit code whether all were right. */
final class Check {
    static final String NOTHING = "nothing";
    static final String BAD = "IllegalArgumentException";
    static final String REFUSED = "IllegalStateException";
    static final String NOT_THERE = "NoSuchElementException";

    private int right = 0;
    private int wrong = 0;
    private String sentence = "";

    interface Call {
        long run();
    }

    interface Deed {
        void run();
    }

    /** Runs the test of one sentence of the document; should it break off, the others still run. */
    void sentence(String where, String words, Deed test) {
        sentence = where + ", \"" + words + "\" ";
        int before = right + wrong;
        same("breaks off by", NOTHING, thrownBy(test));
        same("has something to compare", "true", "" + (right + wrong > before + 1));
        sentence = "";
    }

    void answers(String what, long due, Call call) {
        try {
            same(what, Long.toString(due), Long.toString(call.run()));
        } catch (RuntimeException e) {
            same(what, Long.toString(due), "throws " + e.getClass().getSimpleName());
        }
    }

    void refuses(String what, String due, Deed deed) {
        same(what, due, thrownBy(deed));
    }

    void same(String what, String due, String got) {
        if (due.equals(got)) {
            right++;
        } else {
            wrong++;
            System.out.println(sentence + what + ": " + got + ", due is " + due);
        }
    }

    boolean failed() {
        return wrong > 0;
    }

    void end(String name) {
        System.out.println(name + ": " + right + " right, " + wrong + " wrong");
        if (wrong > 0 || right == 0) {
            System.exit(1);
        }
    }

    static String thrownBy(Deed deed) {
        try {
            deed.run();
            return NOTHING;
        } catch (RuntimeException e) {
            return e.getClass().getSimpleName();
        }
    }
}

/** Counts answers that are due and tells those that are not. */
final class Due {
    static final long LOST = Long.MIN_VALUE;

    private final String test;
    private String where = "";
    private int sinceSentence = 1;
    private int right;
    private int wrong;

    Due(String test) {
        this.test = test;
    }

    /** What is asked from here on is due by this sentence of the document. */
    void sentence(String promises, String quote) {
        close(where);
        where = "promise " + promises + ", '" + quote + "': ";
        sinceSentence = 0;
    }

    /** A sentence that nothing was asked of is not tested. */
    private void close(String sentence) {
        if (sinceSentence == 0) {
            wrong++;
            System.out.println(test + ": " + sentence + "nothing was asked");
        }
    }

    void is(String call, long got, long want) {
        sinceSentence++;
        if (got == want) {
            right++;
            return;
        }
        wrong++;
        if (wrong <= 50) {
            System.out.println(test + ": " + where + call + " answered " + got + ", due is " + want);
        }
    }

    void holds(String what, boolean so) {
        is(what, so ? 1 : 0, 1);
    }

    void close() {
        close(where);
        System.out.println(test + ": " + right + " as due, " + wrong + " not");
        if (wrong != 0 || right == 0) {
            System.exit(1);
        }
    }
}

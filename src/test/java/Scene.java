/** Objects to begin a test with, and numbers that are far outside. */
final class Scene {
    static final int LEAST = Integer.MIN_VALUE;
    static final int GREATEST = Integer.MAX_VALUE;
    static final long MOST_PURSE = 1_000_000_000_000L;

    private Scene() {
    }

    /** With a PLAIN TRADER for each purse. */
    static BetMaker begun(int n, int b, long... purses) {
        BetMaker m = new BetMaker();
        m.begin(n, b);
        for (long purse : purses) {
            m.trader(0, purse);
        }
        return m;
    }

    static void fill(BetMaker m, int k, int lane, int... row) {
        m.sheet(k, lane, row.length);
        for (int i = 0; i < row.length; i++) {
            m.put(k, i, row[i]);
        }
    }

    static void believe(BetMaker m, int t, int... weights) {
        for (int c = 0; c < weights.length; c++) {
            m.believe(t, c, 100);
        }
        for (int c = 0; c < weights.length; c++) {
            m.believe(t, c, weights[c]);
        }
    }

    /** Numbers that are no CASE, TRADER, OFFER, FORECAST or SHEET where there are so many. */
    static int[] noneOf(int many) {
        return new int[] {LEAST, -1, many, many + 1, 64, GREATEST};
    }

    /** Numbers that are no SET of N CASES. */
    static int[] noSets(int n) {
        int all = (1 << n) - 1;
        return new int[] {LEAST, -all, -1, 0, all, all + 1, all + 2, 1 << 16 | 1, GREATEST};
    }
}

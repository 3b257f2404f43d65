/** Promises 16 to 23. */
public final class BoardTest {
    private static final Due due = new Due("BoardTest");

    public static void main(String[] args) {
        offer();
        most();
        sure();
        bundleIsTheFirst();
        bundleFollowsTheBoard();
        forecast();
        forecastRefusals();
        forecastFull();
        score();
        honest();
        heldCounts();
        heldLikely();
        heldTooMany();
        due.close();
    }

    private static BetMaker three() {
        BetMaker m = new BetMaker();
        m.begin(3, 10);
        return m;
    }

    private static void fill(BetMaker m, int k, int lane, int... row) {
        m.sheet(k, lane, row.length);
        for (int i = 0; i < row.length; i++) {
            m.put(k, i, row[i]);
        }
    }

    private static void offer() {
        BetMaker m = three();
        due.is("16 set 0", m.offer(0, 5, 1), BetMaker.OUTSIDE);
        due.is("16 set all", m.offer(7, 5, 1), BetMaker.OUTSIDE);
        due.is("16 at 0", m.offer(1, 0, 1), BetMaker.OUTSIDE);
        due.is("16 at 100", m.offer(1, 100, 1), BetMaker.OUTSIDE);
        due.is("16 m 0", m.offer(1, 5, 0), BetMaker.OUTSIDE);
        due.is("16 m 4", m.offer(1, 5, 4), BetMaker.OUTSIDE);
        due.is("16 none", m.told(3), 0);
        due.is("16 first", m.offer(1, 1, 1), 0);
        due.is("16 second", m.offer(6, 99, 3), 1);
        for (int f = 2; f < 6; f++) {
            due.is("16 number", m.offer(2, 99, 1), f);
        }
        due.is("16 FULL", m.offer(1, 50, 1), BetMaker.FULL);
        due.is("16 OUTSIDE ahead of FULL", m.offer(1, 0, 1), BetMaker.OUTSIDE);
        due.is("16 six", m.told(3), 6);
    }

    private static void most() {
        BetMaker m = three();
        m.offer(1, 10, 2);
        due.is("17 was", m.most(0, 3), 2);
        due.is("17 was", m.most(0, 0), 3);
        due.is("17 was", m.most(0, 1), 0);
        due.is("17 above", m.most(0, 4), BetMaker.OUTSIDE);
        due.is("17 below", m.most(0, -1), BetMaker.OUTSIDE);
        due.is("17 UNKNOWN", m.most(1, 9), BetMaker.UNKNOWN);
        due.is("17 UNKNOWN", m.most(-1, 1), BetMaker.UNKNOWN);
        due.is("17 kept", m.most(0, 1), 1);
    }

    private static void sure() {
        BetMaker m = three();
        due.is("18 nothing", m.sure(), 0);
        m.offer(1, 40, 3);
        due.is("18 one alone", m.sure(), 0);
        m.offer(6, 50, 2);
        // Two of each: 200 - 180.
        due.is("18 both", m.sure(), 20);
        due.is("19 both", m.bundle(0), 2);
        due.is("19 both", m.bundle(1), 2);
        due.is("19 UNKNOWN", m.bundle(2), BetMaker.UNKNOWN);
        due.is("19 UNKNOWN", m.bundle(-1), BetMaker.UNKNOWN);
    }

    private static void bundleIsTheFirst() {
        BetMaker m = three();
        m.offer(1, 30, 1);
        m.offer(1, 30, 1);
        m.offer(6, 60, 1);
        due.is("18 gain", m.sure(), 10);
        due.is("19 first row", m.bundle(0), 0);
        due.is("19 first row", m.bundle(1), 1);
        due.is("19 first row", m.bundle(2), 1);
        // A whole at 100 gains nothing: the row of none is the first.
        m.begin(2, 1);
        m.offer(1, 50, 3);
        m.offer(2, 50, 3);
        due.is("18 no gain", m.sure(), 0);
        due.is("19 nothing", m.bundle(0), 0);
        due.is("19 nothing", m.bundle(1), 0);
    }

    private static void bundleFollowsTheBoard() {
        BetMaker m = new BetMaker();
        m.offer(1, 40, 1);
        m.offer(2, 40, 3);
        due.is("18 before", m.sure(), 20);
        m.most(0, 2);
        due.is("18 after most", m.sure(), 40);
        due.is("19 after most", m.bundle(1), 2);
        m.most(1, 0);
        due.is("18 none left", m.sure(), 0);
        due.is("19 none left", m.bundle(0), 0);
        m.offer(2, 1, 1);
        due.is("18 after offer", m.sure(), 59);
        due.is("19 after offer", m.bundle(2), 1);
        m.begin(2, 5);
        due.is("18 anew", m.sure(), 0);
        due.is("19 anew", m.bundle(0), BetMaker.UNKNOWN);
        m.begin(8, 5);
        for (int f = 0; f < 6; f++) {
            m.offer(f == 0 ? 0xC0 | 1 : 1 << f, 1, 3);
        }
        // All eight CASES are held thrice, by eighteen shares.
        due.is("18 eight", m.sure(), 300 - 18);
        due.is("19 eight", m.bundle(5), 3);
        m.most(3, 1);
        due.is("19 ahead of sure()", m.bundle(0), 1);
        due.is("18 eight, less of one", m.sure(), 100 - 6);
        m.most(3, 0);
        due.is("18 none of one", m.sure(), 0);
    }

    private static void forecast() {
        BetMaker m = three();
        fill(m, 0, 2, 9, 1, 2, 3, 0);
        due.is("20 first", m.forecast(0, 2, 1, 2), 0);
        due.is("20 second", m.forecast(0, 2, 2, 0), 1);
        due.is("20 how many", m.told(4), 2);
        m.put(0, 1, 50);
        m.lose(0);
        // Weights 1, 2, 3, and CASE 2 came: 36 - 14 by 36.
        due.is("20 keeps its weights", m.score(0, 0), 11);
        due.is("20 keeps its weights", m.score(0, 1), 18);
    }

    private static void forecastRefusals() {
        BetMaker m = three();
        fill(m, 0, 0, 0, 0, 0, 1, 101, -1);
        due.is("20 UNKNOWN sheet", m.forecast(4, 9, 0, 0), BetMaker.UNKNOWN);
        due.is("20 UNKNOWN sheet", m.forecast(-1, 0, 0, 0), BetMaker.UNKNOWN);
        due.is("20 UNKNOWN case", m.forecast(0, 9, 0, 3), BetMaker.UNKNOWN);
        due.is("20 UNKNOWN case", m.forecast(0, 0, 1, -1), BetMaker.UNKNOWN);
        due.is("20 lane", m.forecast(0, 3, 9, 0), BetMaker.OUTSIDE);
        due.is("20 CAST", m.forecast(0, 1, 9, 0), -12);
        due.is("20 fault", m.fault(), 2);
        due.is("20 NULL", m.forecast(1, 1, 9, 0), -11);
        due.is("20 fault", m.fault(), 1);
        due.is("20 INDEX", m.forecast(0, 0, 4, 0), -13);
        due.is("20 fault", m.fault(), 3);
        due.is("20 INDEX", m.forecast(0, 0, -1, 0), -13);
        due.is("20 sum 0", m.forecast(0, 0, 0, 0), BetMaker.OUTSIDE);
        due.is("20 no fault", m.fault(), 0);
        due.is("20 weight above", m.forecast(0, 0, 2, 0), BetMaker.OUTSIDE);
        due.is("20 weight below", m.forecast(0, 0, 3, 0), BetMaker.OUTSIDE);
        due.is("20 none", m.told(4), 0);
        due.is("20 just so", m.forecast(0, 0, 1, 0), 0);
    }

    private static void forecastFull() {
        BetMaker m = three();
        fill(m, 0, 0, 100, 100, 100, 0, 0, 0);
        for (int f = 0; f < 40; f++) {
            due.is("20 number", m.forecast(0, 0, 0, f % 3), f);
        }
        due.is("20 FULL", m.forecast(0, 0, 0, 0), BetMaker.FULL);
        due.is("20 FULL is no fault", m.fault(), 0);
        due.is("20 OUTSIDE ahead of FULL", m.forecast(0, 0, 3, 0), BetMaker.OUTSIDE);
        due.is("20 INDEX ahead of FULL", m.forecast(0, 0, 4, 0), -13);
        due.is("20 NULL ahead of FULL", m.forecast(1, 0, 0, 0), -11);
        due.is("20 forty", m.told(4), 40);
        due.is("21 last", m.score(39, 0), 1);
        due.is("21 last", m.score(39, 1), 3);
    }

    private static void score() {
        BetMaker m = three();
        fill(m, 0, 1, 0, 0, 7, 2, 1, 1, 3, 1, 0);
        m.forecast(0, 1, 0, 2);
        m.forecast(0, 1, 0, 0);
        m.forecast(0, 1, 3, 1);
        m.forecast(0, 1, 6, 1);
        // All on the one that came: 1; on another: -1.
        due.is("21 right", m.score(0, 0), 1);
        due.is("21 right", m.score(0, 1), 1);
        due.is("21 wrong", m.score(1, 0), -1);
        due.is("21 wrong", m.score(1, 1), 1);
        // 2, 1, 1: 8 - 6 by 16.
        due.is("21 some", m.score(2, 0), 1);
        due.is("21 some", m.score(2, 1), 8);
        // 3, 1, 0: 8 - 10 by 16.
        due.is("21 below 0", m.score(3, 0), -1);
        due.is("21 below 0", m.score(3, 1), 8);
        fill(m, 0, 1, 1, 3, 1);
        // 1, 3, 1: 2 * 5 * 1 - 11 by 25.
        m.forecast(0, 1, 0, 0);
        due.is("21 least terms", m.score(4, 0), -1);
        due.is("21 least terms", m.score(4, 1), 25);
        zeroScore();
        due.is("21 UNKNOWN", m.score(5, 0), Due.LOST);
        due.is("21 UNKNOWN", m.score(-1, 0), Due.LOST);
        due.is("21 OUTSIDE", m.score(0, 2), Due.LOST);
        due.is("21 OUTSIDE", m.score(0, -1), Due.LOST);
    }

    private static void zeroScore() {
        BetMaker m = new BetMaker();
        m.begin(4, 10);
        m.trader(0, 0);
        m.believe(0, 1, 0);
        fill(m, 3, 0, 1, 3, 1, 1);
        // 2 * 6 * 1 - 12 by 36.
        m.forecast(3, 0, 0, 0);
        due.is("21 0 upper", m.score(0, 0), 0);
        due.is("21 0 lower", m.score(0, 1), 1);
        due.is("22 0 upper", m.honest(0, 0, 0), 0);
        due.is("22 0 lower", m.honest(0, 0, 1), 1);
    }

    private static void honest() {
        BetMaker m = three();
        m.trader(0, 0);
        m.trader(1, 0);
        m.believe(1, 0, 6);
        m.believe(1, 1, 0);
        m.believe(1, 2, 2);
        fill(m, 0, 0, 2, 1, 1);
        m.forecast(0, 0, 0, 1);
        // SCORES 16 - 6, 8 - 6, 8 - 6 by 16; in the mean of 1, 1, 1: 14 by 48.
        due.is("22 even", m.honest(0, 0, 0), 7);
        due.is("22 even", m.honest(0, 0, 1), 24);
        // 6 * 10 + 2 * 2 by 8 * 16.
        due.is("22 weighed", m.honest(1, 0, 0), 1);
        due.is("22 weighed", m.honest(1, 0, 1), 2);
        due.is("22 UNKNOWN trader", m.honest(2, 0, 0), Due.LOST);
        due.is("22 UNKNOWN forecast", m.honest(0, 1, 0), Due.LOST);
        due.is("22 UNKNOWN forecast", m.honest(0, -1, 0), Due.LOST);
        due.is("22 OUTSIDE", m.honest(0, 0, 2), Due.LOST);
        due.is("22 OUTSIDE", m.honest(0, 0, -1), Due.LOST);
        honestIsBest();
    }

    /** The forecast that tells the belief itself scores best in the mean. */
    private static void honestIsBest() {
        BetMaker m = three();
        m.trader(0, 0);
        fill(m, 0, 0, 5, 3, 2);
        m.beliefs(0, 0, 0, 0);
        m.forecast(0, 0, 0, 0);
        double own = m.honest(0, 0, 0) / (double) m.honest(0, 0, 1);
        for (int a = 0; a <= 10; a += 2) {
            for (int b = 0; a + b <= 10; b += 2) {
                fill(m, 0, 0, a, b, 10 - a - b);
                int f = m.forecast(0, 0, 0, 0);
                double other = m.honest(0, f, 0) / (double) m.honest(0, f, 1);
                due.holds("22 honest is best", other < own);
            }
        }
    }

    private static void heldCounts() {
        BetMaker m = three();
        fill(m, 0, 0, 3, 5, 2, 1, 1, 2, 0, 7, 0, 1, 1, 1);
        int[][] made = {{0, 0}, {0, 1}, {3, 2}, {3, 1}, {6, 1}, {6, 0}, {9, 0}};
        for (int[] f : made) {
            m.forecast(0, 0, f[0], f[1]);
        }
        due.is("23 three tenths", m.held(0, 3, 0), 2);
        due.is("23 three tenths", m.held(0, 3, 1), 1);
        // 51 by 100: one or two of two, each three tenths likely.
        due.is("23 three tenths", m.held(0, 3, 2), 51);
        due.is("23 halves", m.held(2, 5, 0), 2);
        due.is("23 halves", m.held(2, 5, 1), 1);
        due.is("23 sure ones", m.held(1, 10, 0), 2);
        due.is("23 sure ones", m.held(1, 10, 1), 1);
        due.is("23 sure ones", m.held(1, 10, 2), 100);
        due.is("23 never", m.held(0, 0, 0), 2);
        due.is("23 never", m.held(0, 0, 1), 1);
        due.is("23 never", m.held(0, 0, 2), 0);
        due.is("23 quarters are no tenths", m.held(0, 2, 0), 0);
        due.is("23 thirds are no tenths", m.held(1, 3, 0), 0);
        due.is("23 none: 1 of 1", m.held(1, 3, 2), 1);
        due.is("23 UNKNOWN", m.held(3, 0, 0), Due.LOST);
        due.is("23 UNKNOWN", m.held(-1, 0, 0), Due.LOST);
        due.is("23 t", m.held(0, 11, 0), Due.LOST);
        due.is("23 t", m.held(0, -1, 0), Due.LOST);
        due.is("23 what", m.held(0, 0, 3), Due.LOST);
        due.is("23 what", m.held(0, 0, -1), Due.LOST);
    }

    private static void heldLikely() {
        BetMaker m = new BetMaker();
        fill(m, 0, 0, 1, 1);
        for (int f = 0; f < 4; f++) {
            m.forecast(0, 0, 0, f == 0 ? 1 : 0);
        }
        // Three or four of four, halves: 5 by 16.
        due.is("23 likely", m.held(0, 5, 2), 3125);
        due.is("23 likely", m.held(1, 5, 2), 9375);
    }

    private static void heldTooMany() {
        BetMaker m = new BetMaker();
        fill(m, 0, 0, 4, 6);
        for (int f = 0; f < 15; f++) {
            m.forecast(0, 0, 0, 1);
        }
        due.is("23 fifteen", m.held(0, 4, 2), 1000000000000000L);
        // 6^15.
        due.is("23 all fifteen", m.held(1, 6, 2), 470184984576L);
        m.forecast(0, 0, 0, 1);
        due.is("23 STATE", m.held(0, 4, 2), Due.LOST);
        due.is("23 sixteen", m.held(0, 4, 0), 16);
        due.is("23 sixteen", m.held(1, 6, 1), 16);
        due.is("23 others", m.held(0, 5, 2), 1);
    }
}

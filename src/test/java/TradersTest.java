/** Promises 11 to 15. */
public final class TradersTest {
    private static final Due due = new Due("TradersTest");

    public static void main(String[] args) {
        of();
        ofRefusals();
        believe();
        beliefs();
        beliefsFaultsInOrder();
        worth();
        best();
        bestOfEqualOnes();
        bestIsNotBarred();
        due.close();
    }

    private static BetMaker three() {
        BetMaker m = new BetMaker();
        m.begin(3, 10);
        m.trader(2, 10000);
        return m;
    }

    private static void of() {
        BetMaker m = three();
        m.deal(0, 1, 5);
        m.deal(0, 2, -1);
        due.is("11 purse", m.of(0, 0), 10000 - m.maker(0));
        due.is("11 least", m.of(0, 1), -1);
        due.is("11 deals", m.of(0, 2), 2);
        due.is("11 kind", m.of(0, 3), 2);
        due.is("11 W", m.of(0, 4), 3);
        due.is("11 holds 0", m.of(0, 10), 5);
        due.is("11 holds 1", m.of(0, 11), -1);
        due.is("11 holds 2", m.of(0, 12), 0);
        m.believe(0, 2, 50);
        due.is("11 weight 0", m.of(0, 20), 1);
        due.is("11 weight 2", m.of(0, 22), 50);
        due.is("11 W", m.of(0, 4), 52);
    }

    private static void ofRefusals() {
        BetMaker m = three();
        int[] others = {-1, 5, 9, 13, 17, 18, 19, 23, 27, 28, 30,
            Integer.MIN_VALUE, Integer.MAX_VALUE, Integer.MIN_VALUE + 10};
        for (int what : others) {
            due.is("11 OUTSIDE " + what, m.of(0, what), Due.LOST);
        }
        due.is("11 UNKNOWN", m.of(1, 0), Due.LOST);
        due.is("11 UNKNOWN", m.of(-1, 0), Due.LOST);
        m.begin(8, 10);
        m.trader(0, 0);
        due.is("11 holds 7", m.of(0, 17), 0);
        due.is("11 18", m.of(0, 18), Due.LOST);
        due.is("11 weight 7", m.of(0, 27), 1);
        due.is("11 28", m.of(0, 28), Due.LOST);
    }

    private static void believe() {
        BetMaker m = three();
        due.is("12 was", m.believe(0, 0, 100), 1);
        due.is("12 was", m.believe(0, 0, 7), 100);
        due.is("12 above", m.believe(0, 0, 101), BetMaker.OUTSIDE);
        due.is("12 below", m.believe(0, 0, -1), BetMaker.OUTSIDE);
        due.is("12 UNKNOWN trader", m.believe(1, 0, 500), BetMaker.UNKNOWN);
        due.is("12 UNKNOWN case", m.believe(0, 3, 500), BetMaker.UNKNOWN);
        due.is("12 UNKNOWN case", m.believe(0, -1, 1), BetMaker.UNKNOWN);
        due.is("12 to 0", m.believe(0, 1, 0), 1);
        due.is("12 to 0", m.believe(0, 2, 0), 1);
        due.is("12 STATE", m.believe(0, 0, 0), BetMaker.STATE);
        due.is("12 0 stays 0", m.believe(0, 1, 0), 0);
        due.is("12 unchanged", m.of(0, 20), 7);
        due.is("12 the only weight, again", m.believe(0, 0, 7), 7);
        due.is("12 another beside it", m.believe(0, 1, 7), 0);
        m.comes(0);
        due.is("12 after it came", m.believe(0, 0, 8), 7);
    }

    private static void beliefs() {
        BetMaker m = three();
        m.sheet(1, 1, 6);
        int[] row = {0, 100, 4, 0, 0, 0};
        for (int i = 0; i < row.length; i++) {
            m.put(1, i, row[i]);
        }
        due.is("13 W", m.beliefs(0, 1, 1, 0), 104);
        due.is("13 weight", m.of(0, 21), 100);
        due.is("13 W", m.beliefs(0, 1, 1, 2), 4);
        due.is("13 weight", m.of(0, 20), 4);
        due.is("13 sum 0", m.beliefs(0, 1, 1, 3), BetMaker.OUTSIDE);
        due.is("13 no fault", m.fault(), 0);
        due.is("13 unchanged", m.of(0, 4), 4);
        m.put(1, 4, 101);
        due.is("13 weight above", m.beliefs(0, 1, 1, 2), BetMaker.OUTSIDE);
        m.put(1, 4, -1);
        due.is("13 weight below", m.beliefs(0, 1, 1, 2), BetMaker.OUTSIDE);
        due.is("13 unchanged", m.of(0, 20), 4);
        m.put(1, 4, 1);
        due.is("13 W 1", m.beliefs(0, 1, 1, 3), 1);
        due.is("13 W 1", m.of(0, 21), 1);
        m.put(1, 4, 0);
        m.beliefs(0, 1, 1, 2);
        m.put(1, 2, 9);
        due.is("13 a belief is no view of the sheet", m.of(0, 20), 4);
    }

    private static void beliefsFaultsInOrder() {
        BetMaker m = three();
        m.sheet(0, 0, 3);
        due.is("13 UNKNOWN trader first", m.beliefs(1, 0, 9, 9), BetMaker.UNKNOWN);
        due.is("13 UNKNOWN sheet", m.beliefs(0, 4, 9, 9), BetMaker.UNKNOWN);
        due.is("13 UNKNOWN sheet", m.beliefs(0, -1, 0, 0), BetMaker.UNKNOWN);
        due.is("13 lane", m.beliefs(0, 3, 3, 0), BetMaker.OUTSIDE);
        due.is("13 lane", m.beliefs(0, 3, -1, 0), BetMaker.OUTSIDE);
        due.is("13 fault of a refused one", m.fault(), 0);
        due.is("13 CAST ahead of INDEX", m.beliefs(0, 0, 2, 50), -12);
        due.is("13 fault", m.fault(), 2);
        due.is("13 NULL, no CAST", m.beliefs(0, 3, 2, 50), -11);
        due.is("13 fault", m.fault(), 1);
        due.is("13 INDEX", m.beliefs(0, 0, 0, 1), -13);
        due.is("13 INDEX", m.beliefs(0, 0, 0, -1), -13);
        due.is("13 INDEX", m.beliefs(0, 0, 0, Integer.MAX_VALUE), -13);
        due.is("13 INDEX", m.beliefs(0, 0, 0, Integer.MIN_VALUE), -13);
        due.is("13 fault", m.fault(), 3);
        due.is("13 all 0", m.beliefs(0, 0, 0, 0), BetMaker.OUTSIDE);
        due.is("13 fault of a refused one", m.fault(), 0);
        m.sheet(0, 0, 2);
        due.is("13 too short a row", m.beliefs(0, 0, 0, 0), -13);
        due.is("13 W unchanged", m.of(0, 4), 3);
    }

    private static void worth() {
        BetMaker m = three();
        m.believe(0, 0, 9);
        m.believe(0, 1, 4);
        // W 14, U 120: 9 * 5 * 120 - 14 * 250.
        due.is("14 worth", m.worth(0, 1, 5), 5400 - 3500);
        // 13 * 2 * 120 - 14 * 168.
        due.is("14 worth of two", m.worth(0, 3, 2), 3120 - 2352);
        due.is("14 worth back", m.worth(0, 1, -5), -5400 + 14 * 150);
        due.is("14 UNKNOWN", m.worth(1, 1, 1), Due.LOST);
        due.is("14 set", m.worth(0, 7, 1), Due.LOST);
        due.is("14 x 0", m.worth(0, 1, 0), Due.LOST);
        due.is("14 x above", m.worth(0, 1, 1001), Due.LOST);
        m.comes(0);
        due.is("14 after", m.worth(0, 1, 5), 1900);
    }

    private static void best() {
        BetMaker m = three();
        m.believe(0, 0, 9);
        m.believe(0, 1, 4);
        // 9 x 120 - 14 (40 x + 2 x x) = 520 x - 28 x x: greatest at 9.29.
        due.is("15 best", m.best(0, 1), 9);
        due.is("15 UNKNOWN", m.best(1, 1), Due.LOST);
        due.is("15 set", m.best(0, 0), Due.LOST);
        due.is("15 set", m.best(0, 7), Due.LOST);
        due.is("15 changes nothing", m.of(0, 2), 0);
        m.comes(1);
        due.is("15 STATE", m.best(0, 1), Due.LOST);
    }

    private static void bestOfEqualOnes() {
        BetMaker m = new BetMaker();
        m.begin(2, 2);
        m.trader(0, 100000);
        // All even: WORTH of x is -2 x x: 0 is best.
        due.is("15 nothing is best", m.best(0, 1), 0);
        // U 16; weights 9, 7: 9 * 16 x - 16 (8 x + x x) = 16 (x - x x): 0 and 1.
        m.believe(0, 0, 9);
        m.believe(0, 1, 7);
        due.is("15 as good", m.worth(0, 1, 1), 0);
        due.is("15 nearest to 0", m.best(0, 1), 0);
        // weights 11, 5: 16 (3 x - x x): 1 and 2 are as good.
        m.believe(0, 0, 11);
        m.believe(0, 1, 5);
        due.is("15 as good", m.worth(0, 1, 1), m.worth(0, 1, 2));
        due.is("15 nearest to 0", m.best(0, 1), 1);
        due.is("15 nearest to 0", m.best(0, 2), -1);
        // U 8; weights 2, 1: 16 x - 3 (4 x + x x) = 4 x - 3 x x.
        m.begin(2, 1);
        m.trader(0, 100);
        m.believe(0, 0, 2);
        due.is("15 WORTH 1", m.worth(0, 1, 1), 1);
        due.is("15 the least gain is one", m.best(0, 1), 1);
    }

    private static void bestIsNotBarred() {
        BetMaker m = new BetMaker();
        m.begin(2, 1000);
        m.trader(0, 1000000000);
        m.believe(0, 1, 0);
        due.is("15 50 at most", m.best(0, 1), 50);
        due.is("15 -50 at least", m.best(0, 2), -50);
        m.trader(0, 0);
        m.believe(1, 1, 0);
        due.is("15 an empty purse", m.best(1, 1), 0);
        m.trader(0, 4001 * 3);
        m.believe(2, 1, 0);
        // x shares cost 4000 x + x x.
        due.is("15 a small purse", m.best(2, 1), 2);
        m.begin(2, 3);
        m.trader(0, 1000000);
        m.believe(0, 1, 0);
        // Prices 12 + 2 x and 12 - 2 x, up to U = 24.
        due.is("15 up to the price", m.best(0, 1), 6);
        m.deal(0, 1, 6);
        due.is("15 no more", m.best(0, 1), 0);
    }
}

/** Promises 11 to 15 at the edges that the document names, sentence by sentence. */
public final class TradersEdgesTest {
    private static final Due due = new Due("TradersEdgesTest");
    private static final long LOST = BetMaker.LOST;
    private static final int UNKNOWN = BetMaker.UNKNOWN, OUTSIDE = BetMaker.OUTSIDE, STATE = BetMaker.STATE;
    private static final int LEAST = Scene.LEAST, GREATEST = Scene.GREATEST;
    private static final int NULL = -11, CAST = -12, INDEX = -13;

    public static void main(String[] args) {
        ofOf();
        ofBelieve();
        ofBeliefs();
        ofWorth();
        ofBest();
        due.close();
    }

    private static void ofOf() {
        ofEachCase();
        ofTheLeast();
        ofUnknown();
        ofOutside();
        kinds();
        beliefAtFirst();
    }

    private static void ofBelieve() {
        believeLeastAndGreatest();
        believeTellsWhatItWas();
        believeUnknown();
        believeOutside();
        believeState();
    }

    private static void ofBeliefs() {
        beliefsFromCells();
        beliefsTheLastCells();
        beliefsUnknown();
        beliefsLane();
        beliefsCast();
        beliefsNull();
        beliefsIndex();
        beliefsWeights();
        beliefsNoWeight();
        beliefsKeepsTheOldOne();
    }

    private static void ofWorth() {
        worthAtTheEdges();
        worthOfAnyDeal();
        worthRefused();
    }

    private static void ofBest() {
        bestAtFiftyAndMinusFifty();
        bestIsNotBarred();
        bestOfNone();
        bestByTheLeastOfGains();
        bestNearestToNothing();
        bestOfTwoBesideNothing();
        bestOfASet();
        bestUnknown();
        bestOutside();
        bestAfterItCame();
    }

    // ---- of

    private static void ofEachCase() {
        due.sentence("11", "10 and c: what he HOLDS of CASE c; 20 and c: his weight of it.");
        for (int n = 2; n <= 8; n++) {
            BetMaker m = Scene.begun(n, 100, 90000);
            m.deal(0, 1, 3);
            m.deal(0, 1 << (n - 1), -2);
            m.believe(0, 0, 100);
            m.believe(0, n - 1, 0);
            due.is("the first of " + n, m.of(0, 10), 3);
            due.is("the last of " + n, m.of(0, 10 + n - 1), -2);
            due.is("weight of the first of " + n, m.of(0, 20), 100);
            due.is("weight of the last of " + n, m.of(0, 20 + n - 1), 0);
            due.is("W", m.of(0, 4), 100 + n - 2);
        }
    }

    private static void ofTheLeast() {
        due.sentence("11", "Of a TRADER: 0 PURSE, 1 the least that he HOLDS of any CASE, 2 DEALS, 3 kind, 4 W");
        BetMaker m = Scene.begun(3, 100, 90000);
        due.is("nothing", m.of(0, 1), 0);
        m.deal(0, 3, 4);
        due.is("one of which he HOLDS nothing", m.of(0, 1), 0);
        m.deal(0, 4, 7);
        due.is("above 0", m.of(0, 1), 4);
        m.deal(0, 2, -9);
        due.is("below 0", m.of(0, 1), -5);
        due.is("DEALS", m.of(0, 2), 3);
    }

    private static void ofUnknown() {
        due.sentence("11", "LOST: UNKNOWN; OUTSIDE: other ones, no such CASE.");
        BetMaker m = Scene.begun(3, 10, 1, 2);
        for (int t : Scene.noneOf(2)) {
            for (int what : new int[] {0, 1, 2, 3, 4, 10, 20, 99}) {
                due.is("of(" + t + ", " + what + ")", m.of(t, what), LOST);
            }
        }
        due.is("the last TRADER", m.of(1, 0), 2);
    }

    private static void ofOutside() {
        due.sentence("11", "OUTSIDE: other ones, no such CASE.");
        for (int n = 2; n <= 8; n++) {
            BetMaker m = Scene.begun(n, 10, 1);
            int[] others = {LEAST, LEAST + 10, LEAST + 20, -1, 5, 9, 10 + n, 18, 19, 20 + n, 28, 30, 30 + n,
                GREATEST};
            for (int what : others) {
                due.is("of(0, " + what + ") of " + n, m.of(0, what), LOST);
            }
        }
    }

    private static void kinds() {
        due.sentence("3, 11", "of a kind: 0 PLAIN; 1 WARY, a PLAIN one; 2 SURE, a WARY one");
        BetMaker m = new BetMaker();
        for (int t = 0; t < 6; t++) {
            m.trader(t % 3, 0);
            due.is("kind of TRADER " + t, m.of(t, 3), t % 3);
        }
    }

    private static void beliefAtFirst() {
        due.sentence("11", "weights 0 .. 100 of CASES (all 1 at first), with a sum W above 0");
        for (int n = 2; n <= 8; n++) {
            BetMaker m = Scene.begun(n, 10, 0);
            due.is("W of " + n, m.of(0, 4), n);
            for (int c = 0; c < n; c++) {
                due.is("weight of CASE " + c, m.of(0, 20 + c), 1);
            }
        }
    }

    // ---- believe

    private static void believeLeastAndGreatest() {
        due.sentence("12", "weights 0 .. 100 of CASES");
        for (int n = 2; n <= 8; n++) {
            BetMaker m = Scene.begun(n, 10, 0);
            for (int c = 0; c < n; c++) {
                due.is("to 100", m.believe(0, c, 100), 1);
            }
            due.is("the greatest W", m.of(0, 4), 100 * n);
            for (int c = 1; c < n; c++) {
                due.is("to 0", m.believe(0, c, 0), 100);
            }
            due.is("to 1", m.believe(0, 0, 1), 100);
            due.is("the least W", m.of(0, 4), 1);
        }
    }

    private static void believeTellsWhatItWas() {
        due.sentence("12", "A weight of a BELIEF becomes v: what it was.");
        BetMaker m = Scene.begun(3, 10, 0, 0);
        due.is("the last CASE", m.believe(1, 2, 0), 1);
        due.is("from 0", m.believe(1, 2, 100), 0);
        due.is("from 100", m.believe(1, 2, 5), 100);
        due.is("to the same", m.believe(1, 2, 5), 5);
        due.is("of another TRADER", m.of(0, 22), 1);
        due.is("of another CASE", m.of(1, 21), 1);
        m.comes(0);
        due.is("after IT CAME", m.believe(1, 2, 6), 5);
    }

    private static void believeUnknown() {
        due.sentence("12", "UNKNOWN: TRADER, CASE; OUTSIDE; STATE: W would be 0.");
        for (int n = 2; n <= 8; n++) {
            BetMaker m = Scene.begun(n, 10, 0, 0);
            for (int t : Scene.noneOf(2)) {
                due.is("TRADER " + t, m.believe(t, 0, 5), UNKNOWN);
                due.is("TRADER " + t + ", ahead of OUTSIDE", m.believe(t, 0, 101), UNKNOWN);
            }
            for (int c : Scene.noneOf(n)) {
                due.is("CASE " + c + " of " + n, m.believe(0, c, 5), UNKNOWN);
                due.is("CASE " + c + " of " + n + ", ahead of OUTSIDE", m.believe(0, c, -1), UNKNOWN);
            }
            due.is("W", m.of(0, 4), n);
        }
    }

    private static void believeOutside() {
        due.sentence("12", "OUTSIDE; STATE: W would be 0.");
        BetMaker m = Scene.begun(3, 10, 0);
        for (int v : new int[] {LEAST, -100, -1, 101, 256, GREATEST}) {
            due.is("believe(0, 1, " + v + ")", m.believe(0, 1, v), OUTSIDE);
            due.is("the weight", m.of(0, 21), 1);
        }
        Scene.believe(m, 0, 0, 0, 7);
        // W would be 0 if 7 went down by 7: OUTSIDE is told of v itself.
        due.is("-7 beside 7", m.believe(0, 1, -7), OUTSIDE);
    }

    private static void believeState() {
        due.sentence("12", "STATE: W would be 0.");
        for (int n = 2; n <= 8; n++) {
            for (int only = 0; only < n; only++) {
                BetMaker m = Scene.begun(n, 10, 0);
                for (int c = 0; c < n; c++) {
                    m.believe(0, c, c == only ? 3 : 0);
                }
                due.is("W is left", m.of(0, 4), 3);
                due.is("the only weight to 0", m.believe(0, only, 0), STATE);
                due.is("it stays", m.of(0, 20 + only), 3);
                due.is("it may change", m.believe(0, only, 1), 3);
                due.is("another, 0 as it was", m.believe(0, (only + 1) % n, 0), 0);
            }
        }
    }

    // ---- beliefs

    private static void beliefsFromCells() {
        due.sentence("13", "BELIEF of a TRADER becomes N cells of a SHEET from i on, taken as a row of a LANE: W.");
        for (int lane = 0; lane <= 2; lane++) {
            BetMaker m = Scene.begun(3, 10, 0, 0);
            Scene.fill(m, lane, lane, 0, 100, 4, 1);
            due.is("from 0", m.beliefs(1, lane, lane, 0), 104);
            due.is("the first weight", m.of(1, 20), 0);
            due.is("the second weight", m.of(1, 21), 100);
            due.is("the last weight", m.of(1, 22), 4);
            due.is("from 1", m.beliefs(1, lane, lane, 1), 105);
            due.is("the first weight", m.of(1, 20), 100);
            due.is("of another TRADER", m.of(0, 4), 3);
            m.put(lane, 1, 50);
            due.is("the SHEET changes, the BELIEF does not", m.of(1, 20), 100);
        }
    }

    private static void beliefsTheLastCells() {
        due.sentence("13", "INDEX: not all cells are there");
        for (int n = 2; n <= 8; n++) {
            BetMaker m = Scene.begun(n, 10, 0);
            m.sheet(0, 2, 24);
            m.put(0, 23, 9);
            due.is("the last cells", m.beliefs(0, 0, 2, 24 - n), 9);
            due.is("of the last", m.of(0, 20 + n - 1), 9);
            due.is("one is not there", m.beliefs(0, 0, 2, 24 - n + 1), INDEX);
            m.sheet(1, 0, n);
            m.put(1, 0, 8);
            due.is("a row of just N", m.beliefs(0, 1, 0, 0), 8);
            m.sheet(1, 0, n - 1);
            m.put(1, 0, 7);
            due.is("a row of one less", m.beliefs(0, 1, 0, 0), INDEX);
            m.sheet(1, 0, 0);
            due.is("an empty row", m.beliefs(0, 1, 0, 0), INDEX);
            due.is("W stays", m.of(0, 4), 8);
        }
    }

    private static BetMaker withSheets() {
        BetMaker m = Scene.begun(3, 10, 0, 0);
        Scene.fill(m, 0, 0, 5, 3, 2, 0, 0, 0, 101, 1, 1, -1);
        Scene.fill(m, 1, 1, 5, 3, 2);
        m.put(0, 99, 0);
        return m;
    }

    private static void beliefsUnknown() {
        due.sentence("13", "UNKNOWN; OUTSIDE: lane; FAULTS CAST (nothing is no CAST), NULL, INDEX");
        BetMaker m = withSheets();
        for (int t : Scene.noneOf(2)) {
            due.is("TRADER " + t, m.beliefs(t, 0, 0, 0), UNKNOWN);
            due.is("TRADER " + t + ", ahead of OUTSIDE", m.beliefs(t, 0, 3, 0), UNKNOWN);
            due.is("TRADER " + t + ", ahead of CAST", m.beliefs(t, 0, 1, 0), UNKNOWN);
            due.is("TRADER " + t + ", ahead of NULL", m.beliefs(t, 3, 0, 0), UNKNOWN);
        }
        for (int k : Scene.noneOf(4)) {
            due.is("SHEET " + k, m.beliefs(0, k, 0, 0), UNKNOWN);
            due.is("SHEET " + k + ", ahead of OUTSIDE", m.beliefs(0, k, 3, 0), UNKNOWN);
            due.is("SHEET " + k + ", ahead of INDEX", m.beliefs(0, k, 0, -1), UNKNOWN);
        }
        due.is("refused: no fault", m.fault(), 0);
    }

    private static void beliefsLane() {
        due.sentence("13", "OUTSIDE: lane; FAULTS CAST (nothing is no CAST), NULL, INDEX");
        for (int lane : new int[] {LEAST, -1, 3, 4, GREATEST}) {
            BetMaker m = withSheets();
            due.is("lane " + lane, m.beliefs(0, 0, lane, 0), OUTSIDE);
            due.is("refused: no fault", m.fault(), 0);
            due.is("ahead of NULL", m.beliefs(0, 3, lane, 0), OUTSIDE);
            due.is("ahead of INDEX", m.beliefs(0, 0, lane, 99), OUTSIDE);
        }
    }

    private static void beliefsCast() {
        due.sentence("13", "FAULTS CAST (nothing is no CAST), NULL, INDEX: not all cells are there");
        for (int has = 0; has <= 2; has++) {
            for (int lane = 0; lane <= 2; lane++) {
                BetMaker m = Scene.begun(3, 10, 0);
                Scene.fill(m, 0, has, 1, 2, 3);
                due.is("LANE " + has + " as " + lane, m.beliefs(0, 0, lane, 0), has == lane ? 6 : CAST);
                due.is("fault()", m.fault(), has == lane ? 0 : 2);
                due.is("and INDEX", m.beliefs(0, 0, lane, 9), has == lane ? INDEX : CAST);
                m.sheet(0, has, 0);
                due.is("an empty row", m.beliefs(0, 0, lane, 0), has == lane ? INDEX : CAST);
            }
        }
        BetMaker m = withSheets();
        due.is("ahead of a weight", m.beliefs(0, 0, 1, 4), CAST);
        due.is("ahead of W", m.beliefs(0, 0, 2, 3), CAST);
    }

    private static void beliefsNull() {
        due.sentence("13", "CAST (nothing is no CAST), NULL");
        BetMaker m = withSheets();
        for (int lane = 0; lane <= 2; lane++) {
            due.is("never had a row, lane " + lane, m.beliefs(0, 3, lane, 0), NULL);
            due.is("ahead of INDEX", m.beliefs(0, 3, lane, -1), NULL);
            due.is("fault()", m.fault(), 1);
        }
        m.lose(0);
        due.is("lost its row", m.beliefs(0, 0, 0, 0), NULL);
        due.is("lost its row: no CAST", m.beliefs(0, 0, 2, 0), NULL);
    }

    private static void beliefsIndex() {
        due.sentence("13", "INDEX: not all cells are there; OUTSIDE: a weight, W is 0.");
        for (int i : new int[] {LEAST, -3, -1, 8, 9, 10, GREATEST - 2, GREATEST}) {
            BetMaker m = withSheets();
            due.is("from " + i, m.beliefs(0, 0, 0, i), INDEX);
            due.is("fault()", m.fault(), 3);
        }
        due.is("cells 8, 9 are 1 and -1, but one is not there", withSheets().beliefs(0, 0, 0, 8), INDEX);
    }

    private static void beliefsWeights() {
        due.sentence("13", "OUTSIDE: a weight, W is 0.");
        int[] wrong = {LEAST, -1, 101, 1000, GREATEST};
        for (int v : wrong) {
            for (int at = 0; at < 3; at++) {
                BetMaker m = Scene.begun(3, 10, 0);
                Scene.fill(m, 0, 2, 1, 1, 1, v);
                due.is("a cell beyond is not asked", m.beliefs(0, 0, 2, 0), 3);
                m.put(0, at, v);
                due.is("weight " + v + " at " + at, m.beliefs(0, 0, 2, 0), OUTSIDE);
                due.is("no fault", m.fault(), 0);
            }
        }
        BetMaker m = Scene.begun(3, 10, 0);
        Scene.fill(m, 0, 2, -1, 2, -1);
        due.is("weights below 0 that are 0 together", m.beliefs(0, 0, 2, 0), OUTSIDE);
        Scene.fill(m, 0, 0, 200, 1, 256);
        due.is("200 is cut to -56", m.beliefs(0, 0, 0, 0), OUTSIDE);
        m.put(0, 0, 356);
        due.is("356 is cut to 100, 256 to 0", m.beliefs(0, 0, 0, 0), 101);
    }

    private static void beliefsNoWeight() {
        due.sentence("13", "W is 0.");
        for (int n = 2; n <= 8; n++) {
            BetMaker m = Scene.begun(n, 10, 0);
            m.sheet(0, 0, n);
            due.is("all 0", m.beliefs(0, 0, 0, 0), OUTSIDE);
            due.is("no fault", m.fault(), 0);
            due.is("W stays", m.of(0, 4), n);
            m.put(0, n - 1, 1);
            due.is("all but the last", m.beliefs(0, 0, 0, 0), 1);
            due.is("the least W", m.of(0, 4), 1);
            due.is("is on the last", m.of(0, 20 + n - 1), 1);
            for (int i = 0; i < n; i++) {
                m.put(0, i, 100);
            }
            due.is("the greatest W", m.beliefs(0, 0, 0, 0), 100 * n);
        }
    }

    private static void beliefsKeepsTheOldOne() {
        due.sentence("13", "FAULTS CAST (nothing is no CAST), NULL, INDEX: not all cells are there; "
            + "OUTSIDE: a weight, W is 0.");
        BetMaker m = withSheets();
        m.beliefs(0, 0, 0, 0);
        int[][] wrong = {{0, 1, 0}, {3, 0, 0}, {0, 0, 8}, {0, 0, 4}, {0, 0, 3}, {0, 0, 7}, {0, 3, 0}, {4, 0, 0}};
        for (int[] w : wrong) {
            due.holds("refused or a fault", m.beliefs(0, w[0], w[1], w[2]) < 0);
            due.is("the first weight", m.of(0, 20), 5);
            due.is("the second weight", m.of(0, 21), 3);
            due.is("the last weight", m.of(0, 22), 2);
        }
    }

    // ---- worth

    private static void worthAtTheEdges() {
        due.sentence("14", "What x shares of a SET are WORTH to him: the sum of weights in the SET, times x U, "
            + "less W times what he would pay: in GRAINS times W.");
        BetMaker m = Scene.begun(8, 1000, 0);
        Scene.believe(m, 0, 100, 100, 100, 100, 100, 100, 100, 100);
        // SET of seven, 1000 of each: LEVEL 4000 S + 8 T - S S.
        long pays = 4000L * 7000 + 8 * 7 * 1000000L - 7000L * 7000;
        due.is("the greatest weights", m.worth(0, 254, 1000), 700L * 1000 * 32000 - 800 * pays);
        long back = -4000L * 7000 + 8 * 7 * 1000000L - 7000L * 7000;
        due.is("and taken back", m.worth(0, 254, -1000), -700L * 1000 * 32000 - 800 * back);
        Scene.believe(m, 0, 1, 0, 0, 0, 0, 0, 0, 0);
        due.is("no weight in the SET", m.worth(0, 254, 1), -(28000L + 56 - 49));
        due.is("all weight in the SET", m.worth(0, 1, 1), 32000 - 4007);
    }

    private static void worthOfAnyDeal() {
        due.sentence("14", "WORTH.");
        BetMaker m = Scene.begun(3, 10, 0);
        due.is("PURSE is too small", m.worth(0, 1, 1), 120 - 3 * 42);
        due.is("PRICES are outside", m.worth(0, 1, 21), 21 * 120 - 3 * (840 + 2 * 441));
        m.comes(0);
        due.is("after IT CAME", m.worth(0, 1, 1), 120 - 3 * 42);
    }

    private static void worthRefused() {
        due.sentence("14", "LOST: UNKNOWN; OUTSIDE: as quote().");
        BetMaker m = Scene.begun(3, 10, 0, 0);
        for (int came = 0; came < 2; came++) {
            for (int t : Scene.noneOf(2)) {
                due.is("TRADER " + t, m.worth(t, 1, 1), LOST);
            }
            for (int set : Scene.noSets(3)) {
                due.is("set " + set, m.worth(0, set, 1), LOST);
            }
            for (int x : new int[] {LEAST, -1001, 0, 1001, GREATEST}) {
                due.is("x " + x, m.worth(0, 1, x), LOST);
            }
            m.comes(0);
        }
    }

    // ---- best

    private static void bestAtFiftyAndMinusFifty() {
        due.sentence("15", "BEST of a SET: the x from -50 to 50");
        // U 400, weights 5, 3: WORTH of x is 8 (50 x - x x), greatest at 25.
        BetMaker m = Scene.begun(2, 50, Scene.MOST_PURSE);
        Scene.believe(m, 0, 5, 3);
        due.is("25", m.best(0, 1), 25);
        due.is("-25", m.best(0, 2), -25);
        // Weights 3, 1: 4 (100 x - x x), greatest at 50.
        Scene.believe(m, 0, 3, 1);
        due.is("just 50", m.best(0, 1), 50);
        due.is("just -50", m.best(0, 2), -50);
        // Weights a, 100 - a: greatest at 2 a - 100.
        Scene.believe(m, 0, 74, 26);
        due.is("48", m.best(0, 1), 48);
        Scene.believe(m, 0, 76, 24);
        due.is("52 is too many", m.best(0, 1), 50);
        due.is("-52 is too few", m.best(0, 2), -50);
    }

    private static void bestIsNotBarred() {
        due.sentence("15", "that is not BARRED (0 never is) with the greatest WORTH");
        // PRICES 58, 4, 58: each share of CASE 0 takes 2 from CASE 1.
        BetMaker m = Scene.begun(3, 10, Scene.MOST_PURSE);
        m.deal(0, 2, -9);
        Scene.believe(m, 0, 100, 0, 0);
        due.is("up to the PRICE", m.best(0, 1), 2);
        due.is("down to the PRICE", m.best(0, 4), -14);
        due.holds("one more is WORTH more", m.worth(0, 1, 3) > m.worth(0, 1, 2));
        due.is("but BARRED", m.barred(0, 1, 3), 1);
        // x shares pay 400 x + x x: 804 for two, 1209 for three.
        m = Scene.begun(2, 100, 1209, 1208, 804, 803, 401, 400);
        long[] most = {3, 2, 2, 1, 1, 0};
        for (int t = 0; t < 6; t++) {
            Scene.believe(m, t, 100, 0);
            due.is("up to the PURSE", m.best(t, 1), most[t]);
        }
    }

    private static void bestOfNone() {
        due.sentence("15", "(0 never is)");
        BetMaker m = Scene.begun(2, 3, 0, Scene.MOST_PURSE);
        Scene.believe(m, 0, 100, 0);
        for (int x = -50; x <= 50; x++) {
            if (x != 0) {
                due.holds(x + " is BARRED", m.barred(0, 1, x) > 0);
            }
        }
        due.is("an empty PURSE", m.best(0, 1), 0);
        due.is("an empty PURSE", m.best(0, 2), 0);
        m.deal(1, 1, 6);
        Scene.believe(m, 1, 100, 0);
        due.is("PRICES at U and 0", m.best(1, 1), 0);
    }

    private static void bestByTheLeastOfGains() {
        due.sentence("15", "with the greatest WORTH");
        // U 8, weights 2, 1: WORTH of x is 4 x - 3 x x.
        BetMaker m = Scene.begun(2, 1, 100);
        Scene.believe(m, 0, 2, 1);
        due.is("WORTH just 1", m.worth(0, 1, 1), 1);
        due.is("is more than 0's", m.best(0, 1), 1);
        due.is("of the other SET", m.best(0, 2), -1);
        Scene.believe(m, 0, 1, 2);
        due.is("taken back", m.best(0, 1), -1);
    }

    private static void bestNearestToNothing() {
        due.sentence("15", "of several the one nearest to 0");
        // U 16, W 16: WORTH of x of the first is 16 (k x - x x) with weights 8 + k / 2 and the rest.
        BetMaker m = Scene.begun(2, 2, Scene.MOST_PURSE);
        int[][] rows = {{8, 8, 0}, {9, 7, 0}, {10, 6, 1}, {11, 5, 1}, {12, 4, 2}, {13, 3, 2}};
        for (int[] row : rows) {
            Scene.believe(m, 0, row[0], row[1]);
            due.is("weights " + row[0] + ", " + row[1], m.best(0, 1), row[2]);
            due.is("the other SET", m.best(0, 2), -row[2]);
        }
        Scene.believe(m, 0, 9, 7);
        due.is("1 is WORTH as much as 0", m.worth(0, 1, 1), 0);
        Scene.believe(m, 0, 11, 5);
        due.is("1 is WORTH as much as 2", m.worth(0, 1, 1), m.worth(0, 1, 2));
    }

    private static void bestOfTwoBesideNothing() {
        due.sentence("15", "of two the one above 0");
        // x and -x are WORTH the same only where both are WORTH less than 0: it can't come to two.
        for (int n = 2; n <= 8; n++) {
            BetMaker m = Scene.begun(n, 5, Scene.MOST_PURSE);
            due.is("x and -x", m.worth(0, 1, 1), m.worth(0, 1, -1));
            due.holds("less than 0", m.worth(0, 1, 1) < 0);
            due.is("0 is BEST", m.best(0, 1), 0);
        }
    }

    private static void bestOfASet() {
        due.sentence("15", "BEST of a SET.");
        BetMaker m = Scene.begun(8, 1000, Scene.MOST_PURSE);
        Scene.believe(m, 0, 0, 0, 0, 0, 0, 0, 0, 100);
        due.is("the last CASE", m.best(0, 128), 50);
        due.is("all others", m.best(0, 127), -50);
        due.is("the last SET", m.best(0, 254), 50);
        due.is("nothing is done", m.told(5), 0);
    }

    private static void bestUnknown() {
        due.sentence("15", "LOST: UNKNOWN; OUTSIDE; STATE: IT CAME TRUE.");
        BetMaker m = Scene.begun(3, 10, 0, 0);
        for (int t : Scene.noneOf(2)) {
            due.is("best(" + t + ", 1)", m.best(t, 1), LOST);
        }
        due.is("the last TRADER", m.best(1, 1), 0);
    }

    private static void bestOutside() {
        due.sentence("15", "OUTSIDE; STATE: IT CAME TRUE.");
        for (int n = 2; n <= 8; n++) {
            BetMaker m = Scene.begun(n, 10, 0);
            for (int set : Scene.noSets(n)) {
                due.is("best(0, " + set + ")", m.best(0, set), LOST);
            }
        }
    }

    private static void bestAfterItCame() {
        due.sentence("15", "STATE: IT CAME TRUE.");
        BetMaker m = Scene.begun(3, 10, 0);
        due.is("before", m.best(0, 1), 0);
        m.comes(2);
        due.is("after", m.best(0, 1), LOST);
    }
}

import java.math.BigInteger;

/** Promises 16 to 23 at the edges that the document names, sentence by sentence. */
public final class BoardEdgesTest {
    private static final Due due = new Due("BoardEdgesTest");
    private static final long LOST = BetMaker.LOST;
    private static final int UNKNOWN = BetMaker.UNKNOWN, OUTSIDE = BetMaker.OUTSIDE, FULL = BetMaker.FULL;
    private static final int LEAST = Scene.LEAST, GREATEST = Scene.GREATEST;
    private static final int NULL = -11, CAST = -12, INDEX = -13;

    public static void main(String[] args) {
        ofOffers();
        ofBundles();
        ofForecast();
        ofScore();
        ofHonest();
        ofHeld();
        due.close();
    }

    private static void ofOffers() {
        offerNumbers();
        offerSetOutside();
        offerAtOutside();
        offerSharesOutside();
        sixOffersEver();
        mostBecomes();
        mostNone();
        mostUnknown();
        mostOutside();
    }

    private static void ofBundles() {
        sureOfNothing();
        sureIsTheLeastOverAllCases();
        sureOfAllThatIsOffered();
        sureIsTheGreatest();
        sureFollowsTheBoard();
        bundleTheFirstAsARow();
        bundleOfNothing();
        bundleUnknown();
    }

    private static void ofForecast() {
        forecastNumbers();
        forecastFromCells();
        forecastUnknown();
        forecastLane();
        forecastCast();
        forecastNull();
        forecastIndex();
        forecastWeights();
        forecastNoWeight();
        fortyForecastsEver();
    }

    private static void ofScore() {
        scoreOfSureOnes();
        scoreInLeastTerms();
        scoreOfNothing();
        scoreAtTheEdges();
        scoreUnknown();
        scoreOutside();
    }

    private static void ofHonest() {
        honestInTheMean();
        honestOfNothing();
        honestAtTheEdges();
        honestUnknown();
        honestOutside();
    }

    private static void ofHeld() {
        heldJustTenths();
        heldWhereItCame();
        heldOfNone();
        heldHowLikely();
        heldNeverAndAlways();
        heldFifteen();
        heldUnknown();
        heldOutside();
        heldTooMany();
    }

    // ---- offer, most

    private static void offerNumbers() {
        due.sentence("16", "An OFFER: its number.");
        BetMaker m = Scene.begun(3, 10);
        for (int f = 0; f < 6; f++) {
            due.is("offer", m.offer(1 + f, 1 + f, 1 + f % 3), f);
            due.is("how many", m.told(3), f + 1);
            due.is("the next is UNKNOWN", m.bundle(f + 1), UNKNOWN);
        }
    }

    private static void offerSetOutside() {
        due.sentence("16", "OUTSIDE: set, at, m; FULL.");
        for (int n = 2; n <= 8; n++) {
            BetMaker m = Scene.begun(n, 10);
            for (int set : Scene.noSets(n)) {
                due.is("set " + set + " of " + n, m.offer(set, 50, 1), OUTSIDE);
            }
            due.is("the first SET", m.offer(1, 50, 1), 0);
            due.is("the last SET", m.offer((1 << n) - 2, 50, 1), 1);
        }
    }

    private static void offerAtOutside() {
        due.sentence("16", "at so many 100ths each (1 .. 99)");
        BetMaker m = Scene.begun(2, 10);
        for (int at : new int[] {LEAST, -1, 0, 100, 101, GREATEST}) {
            due.is("at " + at, m.offer(1, at, 1), OUTSIDE);
        }
        due.is("at 1", m.offer(1, 1, 1), 0);
        due.is("at 98", m.offer(2, 98, 1), 1);
        due.is("1 and 98", m.sure(), 1);
        due.is("at 99", m.offer(2, 99, 1), 2);
        m.most(1, 0);
        due.is("1 and 99", m.sure(), 0);
    }

    private static void offerSharesOutside() {
        due.sentence("16", "up to m shares (1 .. 3)");
        BetMaker m = Scene.begun(2, 10);
        for (int shares : new int[] {LEAST, -1, 0, 4, 5, GREATEST}) {
            due.is("m " + shares, m.offer(1, 50, shares), OUTSIDE);
        }
        due.is("none came", m.told(3), 0);
        for (int shares = 1; shares <= 3; shares++) {
            int f = m.offer(1, 50, shares);
            due.is("m " + shares, f, shares - 1);
            due.is("its shares", m.most(f, 1), shares);
        }
    }

    private static void sixOffersEver() {
        due.sentence("16", "OFFERS, 6 ever, numbered as they come");
        BetMaker m = Scene.begun(2, 10);
        for (int f = 0; f < 6; f++) {
            due.is("a refused one is no OFFER", m.offer(1, 0, 1), OUTSIDE);
            due.is("offer", m.offer(1, 50, 1), f);
            m.most(f, 0);
        }
        due.is("a seventh, though all have none", m.offer(2, 1, 1), FULL);
        due.is("OUTSIDE is ahead of FULL: set", m.offer(3, 1, 1), OUTSIDE);
        due.is("OUTSIDE is ahead of FULL: at", m.offer(1, 100, 1), OUTSIDE);
        due.is("OUTSIDE is ahead of FULL: m", m.offer(1, 1, 4), OUTSIDE);
        due.is("six", m.told(3), 6);
        due.is("the last is there", m.bundle(5), 0);
        due.is("no seventh", m.bundle(6), UNKNOWN);
    }

    private static void mostBecomes() {
        due.sentence("17", "An OFFER's shares become m (0: none): what they were.");
        BetMaker m = Scene.begun(2, 10);
        m.offer(1, 50, 2);
        m.offer(1, 50, 3);
        int was = 3;
        for (int shares : new int[] {0, 3, 1, 0, 2, 2}) {
            due.is("most(1, " + shares + ")", m.most(1, shares), was);
            was = shares;
        }
        due.is("another OFFER's", m.most(0, 0), 2);
    }

    private static void mostNone() {
        due.sentence("17, 18, 19", "An OFFER's shares become m (0: none)");
        BetMaker m = Scene.begun(2, 10);
        m.offer(1, 10, 1);
        m.offer(2, 10, 1);
        due.is("a gain", m.sure(), 80);
        m.most(0, 0);
        due.is("none is left", m.sure(), 0);
        due.is("none of the one", m.bundle(0), 0);
        due.is("none of the other", m.bundle(1), 0);
        m.most(0, 3);
        m.most(1, 3);
        due.is("more than at first", m.sure(), 240);
        due.is("three", m.bundle(0), 3);
    }

    private static void mostUnknown() {
        due.sentence("17", "UNKNOWN; OUTSIDE: m is not 0 .. 3.");
        BetMaker m = Scene.begun(2, 10);
        due.is("none is there", m.most(0, 1), UNKNOWN);
        m.offer(1, 50, 2);
        m.offer(1, 50, 2);
        for (int f : Scene.noneOf(2)) {
            due.is("most(" + f + ", 1)", m.most(f, 1), UNKNOWN);
            due.is("ahead of OUTSIDE", m.most(f, 4), UNKNOWN);
        }
        due.is("the last", m.most(1, 1), 2);
    }

    private static void mostOutside() {
        due.sentence("17", "OUTSIDE: m is not 0 .. 3.");
        BetMaker m = Scene.begun(2, 10);
        m.offer(1, 50, 2);
        for (int shares : new int[] {LEAST, -1, 4, 5, GREATEST}) {
            due.is("most(0, " + shares + ")", m.most(0, shares), OUTSIDE);
        }
        due.is("its shares", m.most(0, 0), 2);
    }

    // ---- sure, bundle

    private static void sureOfNothing() {
        due.sentence("18", "(Nothing bought: 0.)");
        BetMaker m = Scene.begun(2, 10);
        due.is("no OFFER", m.sure(), 0);
        m.offer(1, 1, 3);
        due.is("one OFFER", m.sure(), 0);
        m.offer(2, 99, 3);
        due.is("a loss is not bought", m.sure(), 0);
        m.offer(1, 99, 3);
        due.is("nor a greater one", m.sure(), 0);
    }

    private static void sureIsTheLeastOverAllCases() {
        due.sentence("18", "SURE of it: the least, over all CASES, of how many of its shares hold it, times 100, "
            + "less what all cost, in 100ths.");
        for (int n = 2; n <= 8; n++) {
            for (int last = 0; last < n; last++) {
                BetMaker m = Scene.begun(n, 10);
                int others = (1 << n) - 1 - (1 << last);
                m.offer(others, 20, 2);
                due.is("CASE " + last + " of " + n + " is not held", m.sure(), 0);
                m.offer(1 << last, 30, 1);
                due.is("CASE " + last + " of " + n + " is held once", m.sure(), 50);
                m.offer(1 << last, 40, 1);
                due.is("CASE " + last + " of " + n + " is held twice", m.sure(), 90);
            }
        }
    }

    private static void sureOfAllThatIsOffered() {
        due.sentence("18, 19", "A BUNDLE: of each OFFER 0 .. m shares, all at once");
        BetMaker m = Scene.begun(8, 10);
        for (int f = 0; f < 6; f++) {
            m.offer(f < 5 ? 1 << f : 0xE0, 1, 3);
        }
        due.is("three of all six", m.sure(), 300 - 18);
        for (int f = 0; f < 6; f++) {
            due.is("three", m.bundle(f), 3);
        }
        for (int shares = 3; shares >= 0; shares--) {
            m.most(5, shares);
            due.is("as the scarcest one", m.sure(), 100 * shares - 6 * shares);
            due.is("of the first", m.bundle(0), shares);
            due.is("of the last", m.bundle(5), shares);
        }
    }

    private static void sureIsTheGreatest() {
        due.sentence("18", "SURE of BEST BUNDLE.");
        BetMaker m = Scene.begun(2, 10);
        m.offer(1, 60, 3);
        m.offer(1, 40, 1);
        m.offer(2, 45, 3);
        due.is("the cheap one alone", m.sure(), 15);
        due.is("not the dear one", m.bundle(0), 0);
        m.most(1, 0);
        due.is("no gain with the dear one", m.sure(), 0);
    }

    private static void sureFollowsTheBoard() {
        due.sentence("18", "BEST BUNDLE: the one with the greatest SURE");
        BetMaker m = Scene.begun(2, 10);
        m.offer(1, 40, 1);
        due.is("one", m.sure(), 0);
        m.offer(2, 40, 3);
        due.is("an OFFER more", m.sure(), 20);
        m.most(0, 3);
        due.is("more shares", m.sure(), 60);
        due.is("a refused most()", m.most(0, 4), OUTSIDE);
        due.is("as before", m.sure(), 60);
        m.comes(0);
        due.is("after IT CAME", m.sure(), 60);
        due.is("after IT CAME", m.bundle(1), 3);
        m.begin(3, 10);
        due.is("begun anew", m.sure(), 0);
        m.offer(1, 40, 1);
        m.offer(2, 40, 1);
        due.is("CASE 2 is not held now", m.sure(), 0);
    }

    private static void rowIs(BetMaker m, int... row) {
        for (int f = 0; f < row.length; f++) {
            due.is("shares of OFFER " + f, m.bundle(f), row[f]);
        }
    }

    private static void bundleTheFirstAsARow() {
        due.sentence("19", "of several the first as a row by OFFERS");
        BetMaker m = Scene.begun(3, 10);
        m.offer(3, 50, 1);
        m.offer(1, 25, 1);
        m.offer(2, 25, 1);
        m.offer(4, 40, 1);
        // 1 0 0 1 gains as much with fewer shares, but comes later as a row.
        due.is("the gain", m.sure(), 10);
        rowIs(m, 0, 1, 1, 1);
        m = Scene.begun(2, 10);
        m.offer(1, 60, 1);
        m.offer(1, 40, 1);
        m.offer(2, 40, 2);
        // 1 1 2 gains as much: the second pair gains nothing.
        due.is("the gain", m.sure(), 20);
        rowIs(m, 0, 1, 1);
        m = Scene.begun(2, 10);
        for (int f = 0; f < 6; f++) {
            m.offer(f % 2 == 0 ? 1 : 2, 30, 1 + f % 3);
        }
        // Shares of CASE 0: 1, 3, 2 by OFFERS 0, 2, 4; of CASE 1: 2, 1, 3 by OFFERS 1, 3, 5: six of each.
        due.is("the gain", m.sure(), 240);
        rowIs(m, 1, 2, 3, 1, 2, 3);
        m.most(5, 1);
        due.is("the gain, less of CASE 1", m.sure(), 160);
        rowIs(m, 0, 2, 2, 1, 2, 1);
    }

    private static void bundleOfNothing() {
        due.sentence("19", "How many shares of an OFFER are in BEST BUNDLE.");
        BetMaker m = Scene.begun(2, 10);
        m.offer(1, 50, 3);
        m.offer(2, 50, 3);
        due.is("no gain", m.sure(), 0);
        rowIs(m, 0, 0);
        m.offer(2, 49, 1);
        rowIs(m, 1, 0, 1);
        due.is("the gain", m.sure(), 1);
    }

    private static void bundleUnknown() {
        due.sentence("19", "UNKNOWN.");
        BetMaker m = Scene.begun(2, 10);
        due.is("none is there", m.bundle(0), UNKNOWN);
        m.offer(1, 40, 3);
        m.offer(2, 40, 3);
        for (int f : Scene.noneOf(2)) {
            due.is("bundle(" + f + ")", m.bundle(f), UNKNOWN);
        }
        due.is("the last", m.bundle(1), 3);
    }

    // ---- forecast

    private static BetMaker withSheets() {
        BetMaker m = Scene.begun(3, 10, 0);
        Scene.fill(m, 0, 0, 5, 3, 2, 0, 0, 0, 101, 1, 1, -1);
        m.put(0, 99, 0);
        return m;
    }

    private static void forecastNumbers() {
        due.sentence("20", "A FORECAST, its weights N cells of a SHEET from i on, taken as a row of a LANE, "
            + "CASE c came: its number.");
        for (int lane = 0; lane <= 2; lane++) {
            BetMaker m = Scene.begun(3, 10);
            Scene.fill(m, lane, lane, 0, 100, 0, 0);
            for (int c = 0; c < 3; c++) {
                due.is("forecast", m.forecast(lane, lane, 0, c), c);
                due.is("SCORE", m.score(c, 0), c == 1 ? 1 : -1);
                due.is("the next is UNKNOWN", m.score(c + 1, 0), LOST);
            }
            due.is("no fault", m.fault(), 0);
            m.put(lane, 1, 0);
            due.is("the SHEET changes, the FORECAST does not", m.score(1, 0), 1);
        }
    }

    private static void forecastFromCells() {
        due.sentence("20", "its weights N cells of a SHEET from i on");
        for (int n = 2; n <= 8; n++) {
            BetMaker m = Scene.begun(n, 10);
            m.sheet(0, 2, 24);
            m.put(0, 23, 9);
            due.is("the last cells", m.forecast(0, 2, 24 - n, n - 1), 0);
            due.is("the last is the one that came", m.score(0, 0), 1);
            due.is("one is not there", m.forecast(0, 2, 24 - n + 1, 0), INDEX);
            m.sheet(1, 1, n);
            m.put(1, 0, 1);
            due.is("a row of just N", m.forecast(1, 1, 0, 0), 1);
            due.is("the first is the one that came", m.score(1, 0), 1);
            m.sheet(1, 1, n - 1);
            m.put(1, 0, 1);
            due.is("a row of one less", m.forecast(1, 1, 0, 0), INDEX);
        }
    }

    private static void forecastUnknown() {
        due.sentence("20", "UNKNOWN: SHEET, CASE; OUTSIDE: lane");
        BetMaker m = withSheets();
        for (int k : Scene.noneOf(4)) {
            due.is("SHEET " + k, m.forecast(k, 0, 0, 0), UNKNOWN);
            due.is("SHEET " + k + ", ahead of OUTSIDE", m.forecast(k, 3, 0, 0), UNKNOWN);
        }
        for (int c : Scene.noneOf(3)) {
            due.is("CASE " + c, m.forecast(0, 0, 0, c), UNKNOWN);
            due.is("CASE " + c + ", ahead of OUTSIDE", m.forecast(0, 3, 0, c), UNKNOWN);
            due.is("CASE " + c + ", ahead of CAST", m.forecast(0, 1, 0, c), UNKNOWN);
            due.is("CASE " + c + ", ahead of NULL", m.forecast(3, 0, 0, c), UNKNOWN);
            due.is("CASE " + c + ", ahead of INDEX", m.forecast(0, 0, 99, c), UNKNOWN);
        }
        due.is("refused: no fault", m.fault(), 0);
        due.is("none came", m.told(4), 0);
    }

    private static void forecastLane() {
        due.sentence("20", "OUTSIDE: lane; FAULTS as beliefs()");
        for (int lane : new int[] {LEAST, -1, 3, 4, GREATEST}) {
            BetMaker m = withSheets();
            due.is("lane " + lane, m.forecast(0, lane, 0, 0), OUTSIDE);
            due.is("refused: no fault", m.fault(), 0);
            due.is("ahead of NULL", m.forecast(3, lane, 0, 0), OUTSIDE);
            due.is("ahead of INDEX", m.forecast(0, lane, 99, 0), OUTSIDE);
        }
    }

    private static void forecastCast() {
        due.sentence("20", "FAULTS as beliefs()");
        for (int has = 0; has <= 2; has++) {
            for (int lane = 0; lane <= 2; lane++) {
                BetMaker m = Scene.begun(3, 10);
                Scene.fill(m, 0, has, 1, 2, 3);
                due.is("LANE " + has + " as " + lane, m.forecast(0, lane, 0, 0), has == lane ? 0 : CAST);
                due.is("fault()", m.fault(), has == lane ? 0 : 2);
                due.is("and INDEX", m.forecast(0, lane, 9, 0), has == lane ? INDEX : CAST);
            }
        }
        due.is("ahead of a weight", withSheets().forecast(0, 1, 4, 0), CAST);
        due.is("ahead of the sum", withSheets().forecast(0, 2, 3, 0), CAST);
    }

    private static void forecastNull() {
        due.sentence("13, 20", "(nothing is no CAST)");
        BetMaker m = withSheets();
        for (int lane = 0; lane <= 2; lane++) {
            due.is("never had a row, lane " + lane, m.forecast(3, lane, 0, 0), NULL);
            due.is("ahead of INDEX", m.forecast(3, lane, -1, 0), NULL);
            due.is("fault()", m.fault(), 1);
        }
        m.lose(0);
        due.is("lost its row", m.forecast(0, 2, 0, 0), NULL);
    }

    private static void forecastIndex() {
        due.sentence("20", "FAULTS as beliefs(); OUTSIDE: a weight, the sum is 0; FULL.");
        for (int i : new int[] {LEAST, -3, -1, 8, 9, 10, GREATEST - 2, GREATEST}) {
            BetMaker m = withSheets();
            due.is("from " + i, m.forecast(0, 0, i, 0), INDEX);
            due.is("fault()", m.fault(), 3);
            due.is("none came", m.told(4), 0);
        }
    }

    private static void forecastWeights() {
        due.sentence("20", "of a row of weights of CASES (0 .. 100 each, the sum V above 0)");
        for (int v : new int[] {LEAST, -1, 101, GREATEST}) {
            for (int at = 0; at < 3; at++) {
                BetMaker m = Scene.begun(3, 10);
                Scene.fill(m, 0, 2, 0, 100, 0, v);
                due.is("a cell beyond is not asked", m.forecast(0, 2, 0, 0), 0);
                m.put(0, at, v);
                due.is("weight " + v + " at " + at, m.forecast(0, 2, 0, 0), OUTSIDE);
                due.is("no fault", m.fault(), 0);
                due.is("none came", m.told(4), 1);
            }
        }
    }

    private static void forecastNoWeight() {
        due.sentence("20", "OUTSIDE: a weight, the sum is 0");
        for (int n = 2; n <= 8; n++) {
            BetMaker m = Scene.begun(n, 10);
            m.sheet(0, 0, n);
            due.is("all 0", m.forecast(0, 0, 0, 0), OUTSIDE);
            m.put(0, n - 1, 1);
            due.is("all but the last", m.forecast(0, 0, 0, 0), 0);
        }
        BetMaker m = Scene.begun(3, 10);
        Scene.fill(m, 0, 1, 1, -2, 1);
        due.is("weights that are 0 together", m.forecast(0, 1, 0, 0), OUTSIDE);
        due.is("none came", m.told(4), 0);
    }

    private static void fortyForecastsEver() {
        due.sentence("20", "FORECASTS, 40 ever, numbered as they come");
        BetMaker m = withSheets();
        for (int f = 0; f < 40; f++) {
            due.is("a refused one is no FORECAST", m.forecast(0, 0, 3, 0), OUTSIDE);
            due.is("forecast", m.forecast(0, 0, 0, f % 3), f);
        }
        m.put(0, 99, 0);
        due.is("one more", m.forecast(0, 0, 0, 0), FULL);
        due.is("FULL: no fault", m.fault(), 0);
        due.is("UNKNOWN is ahead of FULL: SHEET", m.forecast(4, 0, 0, 0), UNKNOWN);
        due.is("UNKNOWN is ahead of FULL: CASE", m.forecast(0, 0, 0, 3), UNKNOWN);
        due.is("OUTSIDE is ahead of FULL: lane", m.forecast(0, 3, 0, 0), OUTSIDE);
        due.is("CAST is ahead of FULL", m.forecast(0, 1, 0, 0), CAST);
        due.is("NULL is ahead of FULL", m.forecast(3, 0, 0, 0), NULL);
        due.is("INDEX is ahead of FULL", m.forecast(0, 0, 8, 0), INDEX);
        due.is("OUTSIDE is ahead of FULL: a weight", m.forecast(0, 0, 6, 0), OUTSIDE);
        due.is("OUTSIDE is ahead of FULL: the sum", m.forecast(0, 0, 3, 0), OUTSIDE);
        due.is("forty", m.told(4), 40);
        due.is("the last is there", m.score(39, 0) == LOST ? 0 : 1, 1);
        due.is("no more", m.score(40, 0), LOST);
    }

    // ---- score

    private static BetMaker told(int came, int... weights) {
        BetMaker m = Scene.begun(weights.length, 10, 0);
        Scene.fill(m, 0, 2, weights);
        m.forecast(0, 2, 0, came);
        return m;
    }

    private static void scoreIs(BetMaker m, long upper, long lower) {
        due.is("upper number", m.score(0, 0), upper);
        due.is("lower number", m.score(0, 1), lower);
    }

    private static void scoreOfSureOnes() {
        due.sentence("21", "SCORE of a FORECAST: upper number (which 0), lower (1).");
        for (int n = 2; n <= 8; n++) {
            for (int weight : new int[] {1, 100}) {
                int[] row = new int[n];
                row[n - 1] = weight;
                scoreIs(told(n - 1, row), 1, 1);
                scoreIs(told(0, row), -1, 1);
            }
        }
    }

    private static void scoreInLeastTerms() {
        due.sentence("21", "SCORE: 2 V times the weight of that CASE, less the sum of squares of weights, by V V, "
            + "told as upper and lower number in least terms");
        scoreIs(told(0, 1, 1), 1, 2);
        scoreIs(told(0, 100, 100), 1, 2);
        // 2 * 4 * 1 - 10 by 16; 2 * 4 * 3 - 10 by 16.
        scoreIs(told(1, 3, 1), -1, 8);
        scoreIs(told(0, 3, 1), 7, 8);
        // 2 * 5 * 1 - 11 by 25.
        scoreIs(told(2, 1, 3, 1), -1, 25);
    }

    private static void scoreOfNothing() {
        due.sentence("21", "(0 is 0 by 1)");
        // 2 * 6 * 1 - 12 by 36.
        scoreIs(told(0, 1, 3, 1, 1), 0, 1);
        scoreIs(told(3, 1, 3, 1, 1), 0, 1);
        scoreIs(told(1, 1, 3, 1, 1), 2, 3);
        scoreIs(told(0, 33, 99, 33, 33), 0, 1);
    }

    private static BigInteger[] leastTerms(long upper, long lower) {
        BigInteger a = BigInteger.valueOf(upper);
        BigInteger b = BigInteger.valueOf(lower);
        BigInteger common = a.gcd(b);
        return new BigInteger[] {a.divide(common), b.divide(common)};
    }

    private static void scoreAtTheEdges() {
        due.sentence("21", "SCORE: 2 V times the weight of that CASE, less the sum of squares of weights, by V V");
        scoreIs(told(7, 100, 100, 100, 100, 100, 100, 100, 100), 1, 8);
        int[] row = {100, 99, 98, 97, 96, 95, 94, 93};
        long sum = 772;
        long squares = 0;
        for (int weight : row) {
            squares += weight * weight;
        }
        for (int c = 0; c < 8; c++) {
            BigInteger[] least = leastTerms(2 * sum * row[c] - squares, sum * sum);
            scoreIs(told(c, row), least[0].longValueExact(), least[1].longValueExact());
        }
    }

    private static void scoreUnknown() {
        due.sentence("21", "LOST: UNKNOWN, OUTSIDE.");
        due.is("none is there", Scene.begun(2, 10).score(0, 0), LOST);
        BetMaker m = told(0, 1, 3);
        m.forecast(0, 2, 0, 1);
        for (int f : Scene.noneOf(2)) {
            due.is("score(" + f + ", 0)", m.score(f, 0), LOST);
            due.is("score(" + f + ", 1)", m.score(f, 1), LOST);
        }
        due.is("the last", m.score(1, 0), 7);
    }

    private static void scoreOutside() {
        due.sentence("21", "UNKNOWN, OUTSIDE.");
        BetMaker m = told(0, 1, 3);
        for (int which : new int[] {LEAST, -1, 2, 3, GREATEST}) {
            due.is("score(0, " + which + ")", m.score(0, which), LOST);
        }
    }

    // ---- honest

    private static void honestIs(BetMaker m, long upper, long lower) {
        due.is("upper number", m.honest(0, 0, 0), upper);
        due.is("lower number", m.honest(0, 0, 1), lower);
    }

    private static void honestInTheMean() {
        due.sentence("22", "HONEST: what FORECAST f's weights would score in the mean by the BELIEF of TRADER t: "
            + "upper number (which 0), lower (1).");
        for (int came = 0; came < 3; came++) {
            BetMaker m = told(came, 2, 1, 1);
            // SCORES 10, 2, 2 by 16, in the mean of 1, 1, 1 whatever came.
            honestIs(m, 7, 24);
            Scene.believe(m, 0, 100, 0, 0);
            honestIs(m, 5, 8);
            Scene.believe(m, 0, 0, 0, 1);
            honestIs(m, 1, 8);
            Scene.believe(m, 0, 6, 0, 2);
            honestIs(m, 1, 2);
        }
        BetMaker m = told(0, 0, 1);
        Scene.believe(m, 0, 100, 0);
        honestIs(m, -1, 1);
        m.trader(0, 0);
        due.is("another TRADER's BELIEF", m.honest(1, 0, 0), 0);
        m.comes(0);
        honestIs(m, -1, 1);
    }

    private static void honestOfNothing() {
        due.sentence("22", "HONEST for a BELIEF: what a row of weights would score in the mean by it: the sum over "
            + "CASES of BELIEF's weight times SCORE, by W: told likewise.");
        // SCORES 1 and -1, as likely.
        honestIs(told(0, 100, 0), 0, 1);
        BetMaker m = told(0, 1, 3, 1, 1);
        Scene.believe(m, 0, 50, 0, 50, 50);
        honestIs(m, 0, 1);
    }

    private static void honestAtTheEdges() {
        due.sentence("22", "the sum over CASES of BELIEF's weight times SCORE, by W");
        int[] row = {100, 99, 98, 97, 96, 95, 94, 93};
        int[] belief = {0, 100, 99, 100, 98, 97, 100, 91};
        long sum = 772;
        long squares = 0;
        for (int weight : row) {
            squares += weight * weight;
        }
        long upper = 0;
        long weights = 0;
        for (int c = 0; c < 8; c++) {
            upper += belief[c] * (2 * sum * row[c] - squares);
            weights += belief[c];
        }
        BetMaker m = told(3, row);
        Scene.believe(m, 0, belief);
        BigInteger[] least = leastTerms(upper, weights * sum * sum);
        honestIs(m, least[0].longValueExact(), least[1].longValueExact());
    }

    private static void honestUnknown() {
        due.sentence("22", "LOST: UNKNOWN, OUTSIDE.");
        BetMaker m = told(0, 1, 3);
        for (int other : Scene.noneOf(1)) {
            for (int which = 0; which <= 1; which++) {
                due.is("TRADER " + other, m.honest(other, 0, which), LOST);
                due.is("FORECAST " + other, m.honest(0, other, which), LOST);
                due.is("both " + other, m.honest(other, other, which), LOST);
            }
        }
    }

    private static void honestOutside() {
        due.sentence("22", "UNKNOWN, OUTSIDE.");
        BetMaker m = told(0, 1, 3);
        for (int which : new int[] {LEAST, -1, 2, 3, GREATEST}) {
            due.is("honest(0, 0, " + which + ")", m.honest(0, 0, which), LOST);
        }
    }

    // ---- held

    private static void heldIs(BetMaker m, int c, int t, long n, long h, long likely) {
        due.is("n of CASE " + c + ", " + t + " tenths", m.held(c, t, 0), n);
        due.is("h of CASE " + c + ", " + t + " tenths", m.held(c, t, 1), h);
        due.is("how likely, CASE " + c + ", " + t + " tenths", m.held(c, t, 2), likely);
    }

    private static void heldJustTenths() {
        due.sentence("23", "of all FORECASTS that gave CASE c just t tenths (10 times its weight is t V; t 0 .. 10)");
        for (int t = 0; t <= 10; t++) {
            BetMaker m = told(0, t, 10 - t);
            for (int other = 0; other <= 10; other++) {
                due.is(t + " tenths of " + other, m.held(0, other, 0), other == t ? 1 : 0);
                due.is("the rest", m.held(1, other, 0), other == 10 - t ? 1 : 0);
            }
        }
        BetMaker m = told(1, 29, 71);
        Scene.fill(m, 0, 2, 31, 69, 30, 70);
        m.forecast(0, 2, 0, 0);
        due.is("just below and just above 3 tenths", m.held(0, 3, 0), 0);
        m.forecast(0, 2, 2, 0);
        due.is("just 3 tenths", m.held(0, 3, 0), 1);
        m = told(7, 0, 0, 0, 0, 0, 0, 0, 100);
        heldIs(m, 7, 10, 1, 1, 10);
        heldIs(m, 0, 0, 1, 0, 10);
    }

    private static void heldWhereItCame() {
        due.sentence("23", "how many n, in how many of them c came, h");
        BetMaker m = Scene.begun(3, 10);
        Scene.fill(m, 0, 0, 5, 3, 2, 2, 5, 3);
        for (int c = 0; c < 3; c++) {
            m.forecast(0, 0, 0, c);
            m.forecast(0, 0, 3, 0);
        }
        due.is("CASE 0, 5 tenths: n", m.held(0, 5, 0), 3);
        due.is("h: not those of 2 tenths", m.held(0, 5, 1), 1);
        due.is("CASE 0, 2 tenths: h", m.held(0, 2, 1), 3);
        due.is("CASE 1, 5 tenths: n", m.held(1, 5, 0), 3);
        due.is("none", m.held(1, 5, 1), 0);
        due.is("CASE 2, 2 tenths: n", m.held(2, 2, 0), 3);
        due.is("h", m.held(2, 2, 1), 1);
        m.comes(1);
        due.is("what CAME of THE MAKER's is not asked", m.held(1, 5, 1), 0);
    }

    private static void heldOfNone() {
        due.sentence("23", "HELD AGAINST of CASE c, t tenths: 0 n, 1 h, 2 how likely.");
        BetMaker m = Scene.begun(8, 10);
        for (int t = 0; t <= 10; t++) {
            // 0 or more of none: one way of 10^0.
            heldIs(m, 7, t, 0, 0, 1);
        }
    }

    private static void heldHowLikely() {
        due.sentence("23", "how likely h or more of them are, if each comes with t by 10: upper number (of 10^n): "
            + "the sum over j from h to n of (n over j) t^j (10 - t)^(n - j)");
        BetMaker m = told(1, 3, 7);
        heldIs(m, 0, 3, 1, 0, 10);
        heldIs(m, 1, 7, 1, 1, 7);
        m.forecast(0, 2, 0, 0);
        heldIs(m, 0, 3, 2, 1, 51);
        heldIs(m, 1, 7, 2, 1, 91);
        m.forecast(0, 2, 0, 0);
        // 3 * 9 * 7 + 27, and 1000 - 27.
        heldIs(m, 0, 3, 3, 2, 216);
        heldIs(m, 1, 7, 3, 1, 973);
    }

    private static void heldNeverAndAlways() {
        due.sentence("23", "t 0 .. 10");
        BetMaker m = told(1, 0, 10);
        heldIs(m, 0, 0, 1, 0, 10);
        heldIs(m, 1, 10, 1, 1, 10);
        m.forecast(0, 2, 0, 0);
        // What can't come came once, what must come did not: still as likely as the sum says.
        heldIs(m, 0, 0, 2, 1, 0);
        heldIs(m, 1, 10, 2, 1, 100);
    }

    private static long power(int base, int exponent) {
        return BigInteger.valueOf(base).pow(exponent).longValueExact();
    }

    private static void heldFifteen() {
        due.sentence("23", "(n 15 at most.)");
        for (int t = 0; t <= 10; t++) {
            BetMaker m = Scene.begun(2, 10);
            Scene.fill(m, 0, 0, t, 10 - t);
            for (int f = 0; f < 15; f++) {
                m.forecast(0, 0, 0, 0);
            }
            heldIs(m, 0, t, 15, 15, power(t, 15));
            heldIs(m, 1, 10 - t, 15, 0, power(10, 15));
        }
        BetMaker m = Scene.begun(2, 10);
        Scene.fill(m, 0, 0, 9, 1);
        for (int f = 0; f < 15; f++) {
            m.forecast(0, 0, 0, f == 0 ? 1 : 0);
        }
        // 14 of 15: 15 * 9^14 + 9^15; one or more of 15: all but 9^15.
        heldIs(m, 0, 9, 15, 14, 24 * power(9, 14));
        heldIs(m, 1, 1, 15, 1, power(10, 15) - power(9, 15));
    }

    private static void heldUnknown() {
        due.sentence("23", "LOST: UNKNOWN: CASE; OUTSIDE: t, what; STATE: n is above 15 (2 alone).");
        for (int n = 2; n <= 8; n++) {
            BetMaker m = Scene.begun(n, 10);
            for (int c : Scene.noneOf(n)) {
                for (int what = 0; what <= 2; what++) {
                    due.is("held(" + c + ", 0, " + what + ") of " + n, m.held(c, 0, what), LOST);
                }
            }
            due.is("the last CASE", m.held(n - 1, 0, 0), 0);
        }
    }

    private static void heldOutside() {
        due.sentence("23", "OUTSIDE: t, what; STATE: n is above 15 (2 alone).");
        BetMaker m = told(0, 1, 1);
        for (int t : new int[] {LEAST, -1, 11, 12, GREATEST}) {
            for (int what = 0; what <= 2; what++) {
                due.is("held(0, " + t + ", " + what + ")", m.held(0, t, what), LOST);
            }
        }
        for (int what : new int[] {LEAST, -1, 3, 4, GREATEST}) {
            due.is("held(0, 5, " + what + ")", m.held(0, 5, what), LOST);
        }
    }

    private static void heldTooMany() {
        due.sentence("23", "STATE: n is above 15 (2 alone).");
        BetMaker m = Scene.begun(3, 10);
        Scene.fill(m, 0, 0, 4, 4, 2);
        for (int f = 1; f <= 40; f++) {
            m.forecast(0, 0, 0, 1);
            due.is("n", m.held(0, 4, 0), f);
            due.is("h", m.held(1, 4, 1), f);
            due.is("how likely", m.held(0, 4, 2), f <= 15 ? power(10, f) : LOST);
            due.is("how likely, all of them", m.held(1, 4, 2), f <= 15 ? power(4, f) : LOST);
        }
        due.is("other tenths", m.held(0, 5, 2), 1);
    }
}

/** Promises 1 to 10, and 33, at the edges that the document names, sentence by sentence. */
public final class MakerEdgesTest {
    private static final Due due = new Due("MakerEdgesTest");
    private static final long LOST = BetMaker.LOST;
    private static final int UNKNOWN = BetMaker.UNKNOWN, OUTSIDE = BetMaker.OUTSIDE;
    private static final int STATE = BetMaker.STATE, FULL = BetMaker.FULL;
    private static final int LEAST = Scene.LEAST, GREATEST = Scene.GREATEST;
    private static final int[] NO_SHARES = {LEAST, -1001, 0, 1001, GREATEST};

    public static void main(String[] args) {
        ofTheWhole();
        ofBegin();
        ofTrader();
        ofPrice();
        ofQuote();
        ofBarred();
        ofDeal();
        ofComes();
        ofAbout();
        ofMaker();
        ofTold();
        due.close();
    }

    private static void ofTheWhole() {
        allCallsOfAnObject();
        aNewObjectHasNothing();
        none();
    }

    private static void ofBegin() {
        casesFewestAndMost();
        breadthLeastAndGreatest();
        unitAtTheEdges();
        beginsAnew();
        beginsAnewWhatWasFull();
        beginsAnewWhatHasCome();
        beginsAnewWithMoreOrFewerCases();
        keepsSheetsAndTrace();
        beginRefused();
    }

    private static void ofTrader() {
        traderNumbers();
        traderKindOutside();
        purseOutside();
        purseAsItIsGiven();
        sixTradersEver();
    }

    private static void ofPrice() {
        setsOfEachN();
        priceIsASum();
        priceOfNoSet();
        priceBelowTheFirst();
    }

    private static void ofQuote() {
        quoteOfWhatIsBarred();
        quoteUnknown();
        quoteSetOutside();
        quoteSharesOutside();
        quoteIsTheLevelsGrowth();
    }

    private static void ofBarred() {
        barredBelowNothing();
        barredAboveUnit();
        barredOfAnyCase();
        barredByThePurse();
        barredByWhatHeThenHolds();
        barredByAnyCaseHeHolds();
        barredTheLeast();
        barredRefused();
        barredAfterItCame();
    }

    private static void ofDeal() {
        dealGrowsWhatIsSoldAndHeld();
        dealMayPayHim();
        dealSharesAtTheEdges();
        purseBelowNothing();
        soldBelowNothing();
        levelBelowNothing();
        dealCounts();
        dealWhyNot();
        dealRefused();
    }

    private static void ofComes() {
        comesPaysEach();
        comesPaysMoreThanAnIntHolds();
        comesLeavesNothingHeld();
        comesEndsDeals();
        comesForTheEdgeCases();
        comesUnknown();
        comesTwice();
    }

    private static void ofAbout() {
        aboutSoldAndPrice();
        aboutHolders();
        aboutRefused();
    }

    private static void ofMaker() {
        gainWithAll();
        worstOverAllCases();
        worstOfNothing();
        worstAfterItCame();
        cameOrNone();
        makerOutside();
    }

    private static void ofTold() {
        toldCounts();
        toldOutside();
    }

    // ---- the object as a whole

    private static void allCallsOfAnObject() {
        due.sentence("7, 10, 11", "An object is used for at most 512 calls after it has been made");
        BetMaker m = Scene.begun(8, 1000, Scene.MOST_PURSE);
        for (int pair = 1; pair <= 254; pair++) {
            due.is("deal(0, 1, 1000)", m.deal(0, 1, 1000), 2 * pair - 1);
            due.is("deal(0, 254, 1000)", m.deal(0, 254, 1000), 2 * pair);
        }
        // LEVEL of k shares of every CASE is U k: here above what an int holds.
        long paid = 254L * 1000 * 32000;
        due.is("the 511th call", m.of(0, 0), Scene.MOST_PURSE - paid);
        due.is("the 512th call", m.maker(0), paid);
    }

    private static void aNewObjectHasNothing() {
        due.sentence("1", "N is 2, B 100; no TRADERS, OFFERS, FORECASTS, SHEETS; nothing is SOLD.");
        BetMaker m = new BetMaker();
        long[] counts = {2, 100, 0, 0, 0, 0};
        for (int what = 0; what <= 5; what++) {
            due.is("told(" + what + ")", m.told(what), counts[what]);
        }
        due.is("CASE 1", m.about(1, 0), 0);
        due.is("no CASE 2", m.about(2, 0), LOST);
        due.is("no SET but 1 and 2", m.price(3), LOST);
        due.is("4 B", m.price(2), 400);
        due.is("no TRADER", m.tell(0), UNKNOWN);
        due.is("no OFFER", m.bundle(0), UNKNOWN);
        due.is("no sure gain", m.sure(), 0);
        due.is("no FORECAST", m.score(0, 0), LOST);
        for (int k = 0; k < 4; k++) {
            due.is("SHEET " + k, m.put(k, 0, 0), -11);
        }
        for (int what = 0; what <= 2; what++) {
            due.is("maker(" + what + ")", m.maker(what), 0);
        }
        due.is("a TRADER is the first", m.trader(0, 0), 0);
    }

    private static void none() {
        due.sentence("10", "NONE is -9.");
        due.is("NONE", BetMaker.NONE, -9);
        due.is("maker(4)", new BetMaker().maker(4), -9);
    }

    // ---- begin

    private static void casesFewestAndMost() {
        due.sentence("2", "(N 2 .. 8)");
        BetMaker m = new BetMaker();
        for (int n : new int[] {LEAST, -8, -2, -1, 0, 1, 9, 10, GREATEST}) {
            due.is("begin(" + n + ", 10)", m.begin(n, 10), OUTSIDE);
        }
        for (int n = 2; n <= 8; n++) {
            due.is("begin(" + n + ", 10)", m.begin(n, 10), 1);
            due.is("N", m.told(0), n);
            due.is("the last CASE", m.about(n - 1, 0), 0);
            due.is("no more CASES", m.about(n, 0), LOST);
        }
    }

    private static void breadthLeastAndGreatest() {
        due.sentence("2", "THE MAKER has B (1 .. 1000).");
        BetMaker m = new BetMaker();
        for (int b : new int[] {LEAST, -1000, -1, 0, 1001, GREATEST}) {
            due.is("begin(3, " + b + ")", m.begin(3, b), OUTSIDE);
            due.is("B", m.told(1), 100);
        }
        for (int b : new int[] {1, 2, 999, 1000}) {
            due.is("begin(3, " + b + ")", m.begin(3, b), 1);
            due.is("B", m.told(1), b);
        }
    }

    private static void unitAtTheEdges() {
        due.sentence("10", "MONEY is told in GRAINS: U of them are 1, U is 4 B N.");
        due.is("the least U", Scene.begun(2, 1).maker(3), 8);
        due.is("U of most CASES", Scene.begun(8, 1).maker(3), 32);
        due.is("U of the greatest B", Scene.begun(2, 1000).maker(3), 8000);
        due.is("the greatest U", Scene.begun(8, 1000).maker(3), 32000);
        due.is("U of a new object", new BetMaker().maker(3), 800);
    }

    private static BetMaker full() {
        BetMaker m = Scene.begun(3, 10, 9000, 9000, 9000, 9000, 9000, 9000);
        Scene.fill(m, 0, 0, 5, 3, 2);
        for (int t = 0; t < 6; t++) {
            m.deal(t, 1, 1);
            m.offer(t % 2 == 0 ? 1 : 6, 10, 3);
            m.beliefs(t, 0, 0, 0);
        }
        for (int f = 0; f < 40; f++) {
            m.forecast(0, 0, 0, 0);
        }
        return m;
    }

    private static void beginsAnew() {
        due.sentence("2", "All but SHEETS and TRACE is begun anew, with n CASES, B b: 1.");
        BetMaker m = full();
        due.is("a sure gain", m.sure(), 720);
        due.is("as it was", m.begin(3, 10), 1);
        for (int what = 2; what <= 5; what++) {
            due.is("told(" + what + ")", m.told(what), 0);
        }
        for (int what = 0; what <= 2; what++) {
            due.is("maker(" + what + ")", m.maker(what), 0);
        }
        due.is("SOLD", m.about(0, 0), 0);
        due.is("PRICE", m.about(0, 1), 40);
        due.is("who HOLDS", m.about(0, 2), 0);
        due.is("no TRADER", m.of(0, 0), LOST);
        due.is("no OFFER", m.most(0, 1), UNKNOWN);
        due.is("no FORECAST", m.score(0, 0), LOST);
        due.is("HELD AGAINST", m.held(0, 5, 0), 0);
        due.is("sure()", m.sure(), 0);
    }

    private static void beginsAnewWhatWasFull() {
        due.sentence("2, 3, 16, 20", "All but SHEETS and TRACE is begun anew, with n CASES, B b: 1.");
        BetMaker m = full();
        m.begin(3, 10);
        for (int t = 0; t < 6; t++) {
            due.is("TRADER", m.trader(0, 7), t);
            due.is("OFFER", m.offer(1, 10, 1), t);
            due.is("PURSE", m.of(t, 0), 7);
            due.is("DEALS", m.of(t, 2), 0);
            due.is("HOLDS", m.of(t, 10), 0);
            due.is("BELIEF", m.of(t, 20), 1);
            due.is("W", m.of(t, 4), 3);
        }
        due.is("a seventh TRADER", m.trader(0, 7), FULL);
        due.is("a seventh OFFER", m.offer(1, 10, 1), FULL);
        for (int f = 0; f < 40; f++) {
            due.is("FORECAST", m.forecast(0, 0, 0, 1), f);
        }
        due.is("another FORECAST", m.forecast(0, 0, 0, 1), FULL);
    }

    private static void beginsAnewWhatHasCome() {
        due.sentence("2, 6, 7, 8", "All but SHEETS and TRACE is begun anew, with n CASES, B b: 1.");
        BetMaker m = Scene.begun(3, 10, 9000);
        m.comes(2);
        m.begin(3, 10);
        m.trader(0, 9000);
        due.is("maker(4)", m.maker(4), BetMaker.NONE);
        due.is("barred(0, 1, 1)", m.barred(0, 1, 1), 0);
        due.is("deal(0, 1, 1)", m.deal(0, 1, 1), 1);
        due.is("best(0, 1)", m.best(0, 1), -1);
        due.is("comes(1)", m.comes(1), 1);
    }

    private static void beginsAnewWithMoreOrFewerCases() {
        due.sentence("2", "All but SHEETS and TRACE is begun anew, with n CASES, B b: 1.");
        BetMaker m = Scene.begun(8, 1000, Scene.MOST_PURSE);
        m.deal(0, 128, 5);
        m.begin(2, 1);
        m.trader(0, 100);
        due.is("W of two", m.of(0, 4), 2);
        due.is("CASE 2 is gone", m.of(0, 12), LOST);
        due.is("SET 3 is all", m.price(3), LOST);
        m.deal(0, 2, 1);
        m.begin(8, 1);
        m.trader(0, 100);
        due.is("W of eight", m.of(0, 4), 8);
        due.is("HOLDS of the last", m.of(0, 17), 0);
        for (int c = 0; c < 8; c++) {
            due.is("SOLD", m.about(c, 0), 0);
            due.is("PRICE", m.about(c, 1), 4);
        }
    }

    private static void keepsSheetsAndTrace() {
        due.sentence("2, 24, 31", "All but SHEETS and TRACE is begun anew");
        BetMaker m = Scene.begun(3, 10, 0);
        Scene.fill(m, 0, 0, 1, 2, -3);
        Scene.fill(m, 1, 1, 300);
        m.sheet(2, 2, 0);
        m.greet(0);
        m.begin(5, 20);
        due.is("TRACE", m.trace(), 4);
        due.is("a byte", m.at(0, 2, 0), -3);
        due.is("a short", m.at(1, 0, 1), 300);
        due.is("no longer row", m.put(0, 3, 0), -13);
        due.is("an empty row", m.put(2, 0, 0), -13);
        due.is("nothing", m.put(3, 0, 0), -11);
        m.trader(0, 0);
        m.tell(0);
        due.is("TRACE goes on", m.trace(), 4 * 31 + 1);
    }

    private static void beginRefused() {
        due.sentence("2", "OUTSIDE.");
        int[][] wrong = {{1, 10}, {9, 10}, {3, 0}, {3, 1001}, {9, 0}};
        for (int[] w : wrong) {
            BetMaker m = full();
            due.is("begin(" + w[0] + ", " + w[1] + ")", m.begin(w[0], w[1]), OUTSIDE);
            due.holds("nothing changes", Seen.of(m).equals(Seen.of(full())));
        }
    }

    // ---- trader

    private static void traderNumbers() {
        due.sentence("3", "A TRADER: his number.");
        BetMaker m = new BetMaker();
        for (int t = 0; t < 6; t++) {
            due.is("trader", m.trader(t % 3, 10 + t), t);
            due.is("of himself", m.of(t, 0), 10 + t);
            due.is("the next is UNKNOWN", m.of(t + 1, 0), LOST);
        }
    }

    private static void traderKindOutside() {
        due.sentence("3", "OUTSIDE: kind, purse");
        BetMaker m = new BetMaker();
        for (int kind : new int[] {LEAST, -1, 3, 4, GREATEST}) {
            due.is("trader(" + kind + ", 5)", m.trader(kind, 5), OUTSIDE);
        }
        due.is("no TRADER came", m.told(2), 0);
        for (int kind = 0; kind <= 2; kind++) {
            due.is("trader(" + kind + ", 5)", m.trader(kind, 5), kind);
        }
    }

    private static void purseOutside() {
        due.sentence("3", "PURSE: in GRAINS, 0 .. 10^12 as it is given.");
        BetMaker m = new BetMaker();
        long[] wrong = {Long.MIN_VALUE, -Scene.MOST_PURSE, -4294967295L, -1, Scene.MOST_PURSE + 1,
            Long.MAX_VALUE, Long.MAX_VALUE << 32};
        for (long purse : wrong) {
            due.is("trader(0, " + purse + ")", m.trader(0, purse), OUTSIDE);
        }
        due.is("no TRADER came", m.told(2), 0);
        long[] right = {0, 1, 2147483648L, 4294967296L, Scene.MOST_PURSE - 1, Scene.MOST_PURSE};
        for (int t = 0; t < right.length; t++) {
            due.is("trader(0, " + right[t] + ")", m.trader(0, right[t]), t);
            due.is("PURSE", m.of(t, 0), right[t]);
        }
    }

    private static void purseAsItIsGiven() {
        due.sentence("3, 7, 11", "0 .. 10^12 as it is given.");
        BetMaker m = Scene.begun(3, 10, Scene.MOST_PURSE);
        // One share taken back brings 38.
        due.is("deal(0, 1, -1)", m.deal(0, 1, -1), 1);
        due.is("above 10^12 by a DEAL", m.of(0, 0), Scene.MOST_PURSE + 38);
    }

    private static void sixTradersEver() {
        due.sentence("3", "TRADERS, 6 ever, numbered as they come");
        BetMaker m = Scene.begun(2, 10, 1, 2, 3);
        due.is("a refused one is no TRADER", m.trader(3, 0), OUTSIDE);
        m.comes(0);
        for (int t = 3; t < 6; t++) {
            due.is("after IT CAME", m.trader(0, 0), t);
        }
        for (int kind = 0; kind <= 2; kind++) {
            due.is("a seventh", m.trader(kind, 0), FULL);
        }
        due.is("OUTSIDE is ahead of FULL: kind", m.trader(3, 0), OUTSIDE);
        due.is("OUTSIDE is ahead of FULL: purse", m.trader(0, -1), OUTSIDE);
        due.is("six", m.told(2), 6);
        due.is("the last is there", m.of(5, 0), 0);
        due.is("no seventh", m.of(6, 0), LOST);
    }

    // ---- price

    private static void setsOfEachN() {
        due.sentence("4, 5, 6, 7, 14, 15, 16",
            "A SET is a row of bits, one for each CASE (1 .. 2^N - 2: not all).");
        for (int n = 2; n <= 8; n++) {
            BetMaker m = Scene.begun(n, 10, Scene.MOST_PURSE);
            for (int set : Scene.noSets(n)) {
                String of = n + " CASES, set " + set;
                due.is("price, " + of, m.price(set), LOST);
                due.is("quote, " + of, m.quote(0, set, 1), LOST);
                due.is("barred, " + of, m.barred(0, set, 1), OUTSIDE);
                due.is("deal, " + of, m.deal(0, set, 1), OUTSIDE);
                due.is("worth, " + of, m.worth(0, set, 1), LOST);
                due.is("best, " + of, m.best(0, set), LOST);
                due.is("offer, " + of, m.offer(set, 50, 1), OUTSIDE);
            }
            int last = (1 << n) - 2;
            due.is("the first SET", m.price(1), 40);
            due.is("the last SET", m.price(last), 40 * (n - 1));
            due.is("barred, the last SET", m.barred(0, last, 1), 0);
            due.is("best, the last SET", m.best(0, last), 0);
            due.is("offer, the last SET", m.offer(last, 50, 1), 0);
            due.is("deal, the last SET", m.deal(0, last, 1), 1);
            due.is("CASE 0 is not in it", m.about(0, 0), 0);
            due.is("the last CASE is in it", m.about(n - 1, 0), 1);
        }
    }

    private static void priceIsASum() {
        due.sentence("4", "THE PRICE of a SET in GRAINS (the sum of its CASES').");
        BetMaker m = Scene.begun(8, 1000, Scene.MOST_PURSE);
        m.deal(0, 128, 7);
        m.deal(0, 1, -3);
        for (int set = 1; set <= 254; set++) {
            long sum = 0;
            for (int c = 0; c < 8; c++) {
                int sold = c == 7 ? 7 : c == 0 ? -3 : 0;
                sum += (set >> c & 1) * (4000 + 2 * (8 * sold - 4));
            }
            due.is("price(" + set + ")", m.price(set), sum);
        }
    }

    private static void priceOfNoSet() {
        due.sentence("4", "LOST: OUTSIDE: it is no SET.");
        BetMaker m = Scene.begun(3, 10, 9000);
        for (int came = 0; came < 2; came++) {
            for (int set : new int[] {LEAST, -1, 0, 7, 8, 9, 15, GREATEST}) {
                due.is("price(" + set + ")", m.price(set), LOST);
            }
            m.comes(0);
        }
    }

    private static void priceBelowTheFirst() {
        due.sentence("4, 9", "THE PRICE of a CASE: 4 B and 2 (N SOLD - S), by U; in GRAINS: 4 B + 2 (N SOLD - S).");
        BetMaker m = Scene.begun(3, 10, 9000);
        due.is("at first", m.about(2, 1), 40);
        m.deal(0, 1, 20);
        due.is("up to U", m.about(0, 1), 120);
        due.is("down to 0", m.about(1, 1), 0);
        due.is("down to 0", m.price(6), 0);
        m.deal(0, 1, -30);
        due.is("down to 0 by taking back", m.about(0, 1), 0);
        due.is("the others", m.about(2, 1), 60);
        m.comes(1);
        due.is("after IT CAME", m.about(2, 1), 60);
    }

    // ---- quote

    private static void quoteOfWhatIsBarred() {
        due.sentence("5", "What a TRADER would pay for a DEAL.");
        BetMaker m = Scene.begun(3, 10, 0);
        due.is("PURSE is too small", m.quote(0, 1, 1), 42);
        due.is("PRICES are outside", m.quote(0, 1, 21), 21 * 40 + 2 * 441);
        due.is("nothing is done", m.maker(0), 0);
        m.comes(0);
        due.is("after IT CAME", m.quote(0, 1, 1), 42);
    }

    private static void quoteUnknown() {
        due.sentence("5", "LOST: UNKNOWN; OUTSIDE: set, x.");
        BetMaker m = Scene.begun(3, 10, 50, 50);
        for (int t : Scene.noneOf(2)) {
            due.is("quote(" + t + ", 1, 1)", m.quote(t, 1, 1), LOST);
        }
        due.is("the last TRADER", m.quote(1, 1, 1), 42);
    }

    private static void quoteSetOutside() {
        due.sentence("5", "OUTSIDE: set, x.");
        BetMaker m = Scene.begun(3, 10, 50);
        for (int set : Scene.noSets(3)) {
            due.is("quote(0, " + set + ", 1)", m.quote(0, set, 1), LOST);
        }
        due.is("the first SET", m.quote(0, 1, 1), 42);
        due.is("the last SET", m.quote(0, 6, 1), 82);
    }

    private static void quoteSharesOutside() {
        due.sentence("5, 6, 7, 14", "x shares (-1000 .. 1000, not 0) of a SET");
        BetMaker m = Scene.begun(2, 1000, Scene.MOST_PURSE);
        for (int x : NO_SHARES) {
            due.is("quote(0, 1, " + x + ")", m.quote(0, 1, x), LOST);
            due.is("barred(0, 1, " + x + ")", m.barred(0, 1, x), OUTSIDE);
            due.is("deal(0, 1, " + x + ")", m.deal(0, 1, x), OUTSIDE);
            due.is("worth(0, 1, " + x + ")", m.worth(0, 1, x), LOST);
        }
        // LEVEL of (x, 0) is 4000 x + x x; WORTH by 1, 1: 8000 x less twice that.
        for (int x : new int[] {-1000, -1, 1, 1000}) {
            long pays = 4000L * x + (long) x * x;
            due.is("quote(0, 1, " + x + ")", m.quote(0, 1, x), pays);
            due.is("barred(0, 1, " + x + ")", m.barred(0, 1, x), 0);
            due.is("worth(0, 1, " + x + ")", m.worth(0, 1, x), 8000L * x - 2 * pays);
        }
    }

    private static long level(int b, long... sold) {
        long sum = 0;
        long squares = 0;
        for (long s : sold) {
            sum += s;
            squares += s * s;
        }
        return 4 * b * sum + sold.length * squares - sum * sum;
    }

    private static void quoteIsTheLevelsGrowth() {
        due.sentence("5, 10", "THE LEVEL: 4 B S + N T - S S, in GRAINS.");
        BetMaker m = Scene.begun(3, 400, Scene.MOST_PURSE);
        m.deal(0, 1, 300);
        m.deal(0, 4, -200);
        long before = level(400, 300, 0, -200);
        due.is("LEVEL", m.maker(0), before);
        for (int x : new int[] {-1000, -7, 7, 1000}) {
            due.is("of the first", m.quote(0, 1, x), level(400, 300 + x, 0, -200) - before);
            due.is("of the last", m.quote(0, 4, x), level(400, 300, 0, x - 200) - before);
            due.is("of two", m.quote(0, 5, x), level(400, 300 + x, 0, x - 200) - before);
        }
    }

    // ---- barred

    private static void barredBelowNothing() {
        due.sentence("6", "1 THE PRICE of some CASE would be below 0, or above U");
        for (int n = 2; n <= 8; n++) {
            for (int b : new int[] {1, 10, 499}) {
                BetMaker m = Scene.begun(n, b, Scene.MOST_PURSE);
                // x taken back of one CASE: its PRICE is 4 B - 2 (N - 1) x.
                int most = 2 * b / (n - 1);
                for (int c = 0; c < n; c++) {
                    String of = n + " CASES, B " + b + ", CASE " + c;
                    due.is("just not below 0: " + of, most == 0 ? 0 : m.barred(0, 1 << c, -most), 0);
                    due.is("below 0: " + of, m.barred(0, 1 << c, -most - 1), 1);
                }
            }
        }
    }

    private static void barredAboveUnit() {
        due.sentence("6", "would be below 0, or above U");
        for (int n = 2; n <= 8; n++) {
            for (int b : new int[] {1, 10, 499}) {
                BetMaker m = Scene.begun(n, b, Scene.MOST_PURSE);
                // 2 B of one CASE: its PRICE is U, all others' are 0. All PRICES are U together, so
                // one above U is never without one below 0: no call tells the two apart.
                for (int c = 0; c < n; c++) {
                    String of = n + " CASES, B " + b + ", CASE " + c;
                    due.is("just U: " + of, m.barred(0, 1 << c, 2 * b), 0);
                    due.is("above U: " + of, m.barred(0, 1 << c, 2 * b + 1), 1);
                }
            }
        }
    }

    private static void barredOfAnyCase() {
        due.sentence("6", "THE PRICE of some CASE would be below 0");
        BetMaker m = Scene.begun(3, 10, Scene.MOST_PURSE);
        m.deal(0, 2, 19);
        // PRICES 2, 116, 2: SET 3 lowers CASE 2 alone, by 4 a share.
        due.is("a CASE that is not in the SET", m.barred(0, 3, 1), 1);
        due.is("a CASE that is in the SET", m.barred(0, 3, -1), 0);
        due.is("SET 3 lowers CASES 0 and 1 by 2", m.barred(0, 3, -2), 1);
    }

    private static void barredByThePurse() {
        due.sentence("6", "2 his PURSE less what he pays, and U times the least that he then HOLDS of any CASE, "
            + "would be below 0 together");
        for (int set = 1; set <= 6; set++) {
            for (int x = -5; x <= 5; x++) {
                if (x != 0) {
                    long pays = level(10, (set & 1) * x, (set >> 1 & 1) * x, (set >> 2 & 1) * x);
                    long needs = pays - 120L * Math.min(0, x);
                    BetMaker m = Scene.begun(3, 10, needs, needs - 1);
                    String of = "SET " + set + ", " + x + " shares, PURSE ";
                    due.is(of + needs, m.barred(0, set, x), 0);
                    due.is(of + (needs - 1), m.barred(1, set, x), 2);
                    due.is("-20 less it, " + of + (needs - 1), m.deal(1, set, x), -22);
                    due.is("a DEAL, " + of + needs, m.deal(0, set, x), 1);
                }
            }
        }
    }

    private static void barredByWhatHeThenHolds() {
        due.sentence("6", "U times the least that he then HOLDS");
        BetMaker m = Scene.begun(3, 10, 82);
        m.deal(0, 1, -1);
        due.is("PURSE", m.of(0, 0), 120);
        due.is("he HOLDS", m.of(0, 1), -1);
        due.is("he then HOLDS 0", m.barred(0, 1, 1), 0);
        due.is("he then HOLDS -2", m.barred(0, 1, -1), 2);
        // He gets 82 for one of each other, and HOLDS -1 of each: 120 + 82 - 120.
        due.is("he then HOLDS -1 still", m.barred(0, 6, -1), 0);
    }

    private static void barredByAnyCaseHeHolds() {
        due.sentence("6", "the least that he then HOLDS of any CASE");
        BetMaker m = Scene.begun(3, 10, 82 + 44);
        m.deal(0, 4, -1);
        // PRICES 42, 42, 36; he has 164 and HOLDS -1 of CASE 2: 44 are free.
        due.is("one of another CASE for 44", m.quote(0, 1, 1), 44);
        due.is("just enough", m.barred(0, 1, 1), 0);
        BetMaker less = Scene.begun(3, 10, 82 + 43);
        less.deal(0, 4, -1);
        due.is("one too little", less.barred(0, 1, 1), 2);
        due.is("PURSE alone would do", less.of(0, 0), 163);
    }

    private static void barredTheLeast() {
        due.sentence("6, 7", "It is BARRED, the least");
        BetMaker m = Scene.begun(3, 10, 0, Scene.MOST_PURSE);
        due.is("both: 1", m.barred(0, 1, 21), 1);
        due.is("both: 1", m.deal(0, 1, 21), -21);
        due.is("PURSE alone: 2", m.barred(0, 1, 20), 2);
        due.is("PURSE alone: 2", m.deal(0, 1, 20), -22);
        due.is("PRICE alone: 1", m.barred(1, 1, 21), 1);
        due.is("neither: 0", m.barred(1, 1, 20), 0);
    }

    private static void barredRefused() {
        due.sentence("6", "UNKNOWN; OUTSIDE; STATE: IT CAME TRUE.");
        BetMaker m = Scene.begun(3, 10, 50, 50);
        for (int came = 0; came < 2; came++) {
            for (int t : Scene.noneOf(2)) {
                due.is("barred(" + t + ", 0, 0)", m.barred(t, 0, 0), UNKNOWN);
                due.is("barred(" + t + ", 1, 1)", m.barred(t, 1, 1), UNKNOWN);
            }
            for (int set : Scene.noSets(3)) {
                due.is("barred(0, " + set + ", 1)", m.barred(0, set, 1), OUTSIDE);
            }
            for (int x : NO_SHARES) {
                due.is("barred(0, 1, " + x + ")", m.barred(0, 1, x), OUTSIDE);
            }
            m.comes(0);
        }
    }

    private static void barredAfterItCame() {
        due.sentence("6", "STATE: IT CAME TRUE.");
        BetMaker m = Scene.begun(3, 10, 50);
        due.is("not yet", m.barred(0, 1, 1), 0);
        m.comes(2);
        due.is("what was not BARRED", m.barred(0, 1, 1), STATE);
        due.is("what was BARRED: 2", m.barred(0, 1, 20), STATE);
        due.is("what was BARRED: 1", m.barred(0, 1, 1000), STATE);
    }

    // ---- deal

    private static void dealGrowsWhatIsSoldAndHeld() {
        due.sentence("7", "x of each CASE of it: SOLD of each grows by x, what the TRADER HOLDS of it, too");
        BetMaker m = Scene.begun(8, 100, Scene.MOST_PURSE, Scene.MOST_PURSE);
        m.deal(0, 1 | 128, 5);
        m.deal(1, 2 | 128, -3);
        long[] sold = {5, -3, 0, 0, 0, 0, 0, 2};
        long[] first = {5, 0, 0, 0, 0, 0, 0, 5};
        long[] second = {0, -3, 0, 0, 0, 0, 0, -3};
        for (int c = 0; c < 8; c++) {
            due.is("SOLD of " + c, m.about(c, 0), sold[c]);
            due.is("the first HOLDS of " + c, m.of(0, 10 + c), first[c]);
            due.is("the second HOLDS of " + c, m.of(1, 10 + c), second[c]);
        }
    }

    private static void dealMayPayHim() {
        due.sentence("7", "he pays what THE LEVEL grows by (it may be below 0: he gets so much)");
        BetMaker m = Scene.begun(3, 10, 1000, 1000);
        m.deal(0, 6, -2);
        long gets = -level(10, 0, -2, -2);
        due.is("PURSE of him", m.of(0, 0), 1000 + gets);
        due.is("PURSE of another", m.of(1, 0), 1000);
        due.is("LEVEL", m.maker(0), -gets);
        m.deal(1, 6, 2);
        due.is("the other pays the same", m.of(1, 0), 1000 - gets);
        due.is("LEVEL", m.maker(0), 0);
    }

    private static void dealSharesAtTheEdges() {
        due.sentence("7", "x shares (-1000 .. 1000, not 0)");
        BetMaker m = Scene.begun(2, 1000, Scene.MOST_PURSE);
        due.is("deal(0, 1, 1000)", m.deal(0, 1, 1000), 1);
        due.is("he HOLDS", m.of(0, 10), 1000);
        due.is("deal(0, 1, -1000)", m.deal(0, 1, -1000), 2);
        due.is("he HOLDS", m.of(0, 10), 0);
        due.is("deal(0, 2, 1)", m.deal(0, 2, 1), 3);
        due.is("deal(0, 2, -1)", m.deal(0, 2, -1), 4);
        for (int x : NO_SHARES) {
            due.is("deal(0, 1, " + x + ")", m.deal(0, 1, x), OUTSIDE);
        }
        due.is("PURSE as at first", m.of(0, 0), Scene.MOST_PURSE);
        due.is("four DEALS", m.of(0, 2), 4);
    }

    private static void purseBelowNothing() {
        due.sentence("7, 11", "his PURSE less what he pays, and U times the least that he then HOLDS of any CASE");
        BetMaker m = Scene.begun(2, 1, 8);
        due.is("one of CASE 0 for 5", m.deal(0, 1, 1), 1);
        due.is("one of CASE 1 for 3", m.deal(0, 2, 1), 2);
        due.is("nothing is left", m.of(0, 0), 0);
        due.is("one of each is worth U", m.deal(0, 1, 1), 3);
        due.is("PURSE below 0", m.of(0, 0), -5);
        due.is("3 are free: another for 3", m.quote(0, 2, 1), 3);
        due.is("just enough, for he then HOLDS 2 of each", m.deal(0, 2, 1), 4);
        due.is("PURSE below 0", m.of(0, 0), -8);
        m.comes(1);
        due.is("all is paid", m.of(0, 0), 8);
    }

    private static void soldBelowNothing() {
        due.sentence("7, 9", "(below 0: taken back more than sold)");
        BetMaker m = Scene.begun(3, 10, 9000);
        m.deal(0, 1, 2);
        m.deal(0, 1, -5);
        due.is("SOLD", m.about(0, 0), -3);
        due.is("he HOLDS", m.of(0, 10), -3);
        due.is("PRICE", m.about(0, 1), 40 + 2 * (-9 + 3));
        due.is("PRICE of others", m.about(1, 1), 40 + 2 * 3);
    }

    private static void levelBelowNothing() {
        due.sentence("9, 10", "S is the sum of SOLD, T the sum of their squares");
        BetMaker m = Scene.begun(3, 10, 9000);
        m.deal(0, 1, -4);
        m.deal(0, 2, -3);
        m.deal(0, 4, -5);
        due.is("LEVEL, all SOLD below 0", m.maker(0), 40 * -12 + 3 * (16 + 9 + 25) - 144);
        due.is("PRICE", m.about(2, 1), 40 + 2 * (-15 + 12));
    }

    private static void dealCounts() {
        due.sentence("7", "A DEAL: how many he has made; -20 less why it is BARRED.");
        BetMaker m = Scene.begun(3, 10, 9000, 0);
        due.is("his first", m.deal(0, 1, 1), 1);
        due.is("a BARRED one: 2", m.deal(1, 1, 1), -22);
        due.is("a BARRED one: 1", m.deal(0, 1, 20), -21);
        due.is("a refused one", m.deal(0, 1, 0), OUTSIDE);
        due.is("his second: those are no DEALS", m.deal(0, 1, -1), 2);
        due.is("the other made none", m.of(1, 2), 0);
        due.is("two of all", m.told(5), 2);
    }

    private static void dealWhyNot() {
        due.sentence("7", "-20 less why it is BARRED.");
        for (int x : new int[] {20, 21}) {
            BetMaker m = Scene.begun(3, 10, 0);
            due.is("deal(0, 1, " + x + ")", m.deal(0, 1, x), x == 21 ? -21 : -22);
            due.holds("nothing changes", Seen.of(m).equals(Seen.of(Scene.begun(3, 10, 0))));
        }
    }

    private static void dealRefused() {
        due.sentence("7", "UNKNOWN, OUTSIDE, STATE: as barred().");
        BetMaker m = Scene.begun(3, 10, 50, 50);
        for (int came = 0; came < 2; came++) {
            for (int t : Scene.noneOf(2)) {
                due.is("deal(" + t + ", 0, 0)", m.deal(t, 0, 0), UNKNOWN);
                due.is("deal(" + t + ", 1, 1)", m.deal(t, 1, 1), UNKNOWN);
            }
            for (int set : Scene.noSets(3)) {
                due.is("deal(0, " + set + ", 1)", m.deal(0, set, 1), OUTSIDE);
            }
            for (int x : NO_SHARES) {
                due.is("deal(0, 1, " + x + ")", m.deal(0, 1, x), OUTSIDE);
            }
            m.comes(0);
        }
        due.is("STATE", m.deal(0, 1, 1), STATE);
        due.is("STATE, where PRICES would bar it", m.deal(0, 1, 1000), STATE);
        due.is("STATE, where PURSE would bar it", m.deal(0, 1, 20), STATE);
        due.is("no DEAL was made", m.told(5), 0);
    }

    // ---- comes

    private static BetMaker three(long... purses) {
        BetMaker m = Scene.begun(3, 10, purses);
        m.deal(0, 1, 5);
        m.deal(1, 1, -2);
        m.deal(1, 4, 3);
        return m;
    }

    private static void comesPaysEach() {
        due.sentence("8", "IT COMES TRUE: a CASE: each TRADER gets U times what he HOLDS of it");
        long[][] gets = {{600, -240, 0}, {0, 0, 0}, {0, 360, 0}};
        for (int c = 0; c < 3; c++) {
            BetMaker before = three(1000, 1000, 1000);
            BetMaker m = three(1000, 1000, 1000);
            due.is("comes(" + c + ")", m.comes(c), 1);
            for (int t = 0; t < 3; t++) {
                due.is("TRADER " + t + ", CASE " + c, m.of(t, 0), before.of(t, 0) + gets[c][t]);
            }
        }
    }

    private static void comesPaysMoreThanAnIntHolds() {
        due.sentence("8, 10, 11", "each TRADER gets U times what he HOLDS of it");
        BetMaker m = Scene.begun(8, 1000, Scene.MOST_PURSE);
        for (int pair = 0; pair < 150; pair++) {
            m.deal(0, 1, 1000);
            m.deal(0, 254, 1000);
        }
        long all = 150L * 1000 * 32000;
        due.is("PURSE before", m.of(0, 0), Scene.MOST_PURSE - all);
        due.is("GAIN before", m.maker(1), all);
        due.is("WORST: one of each CASE is worth just U", m.maker(2), 0);
        m.comes(7);
        due.is("PURSE", m.of(0, 0), Scene.MOST_PURSE);
        due.is("GAIN", m.maker(1), 0);
    }

    private static void comesLeavesNothingHeld() {
        due.sentence("8, 9, 11", "all HOLD nothing");
        BetMaker m = three(1000, 1000, 1000);
        m.comes(2);
        for (int t = 0; t < 3; t++) {
            due.is("the least", m.of(t, 1), 0);
            for (int c = 0; c < 3; c++) {
                due.is("TRADER " + t + ", CASE " + c, m.of(t, 10 + c), 0);
            }
        }
        for (int c = 0; c < 3; c++) {
            due.is("who HOLDS CASE " + c, m.about(c, 2), 0);
        }
        due.is("SOLD stays", m.about(0, 0), 3);
        due.is("LEVEL stays", m.maker(0), level(10, 3, 0, 3));
    }

    private static void comesEndsDeals() {
        due.sentence("8", "no more DEALS then");
        BetMaker m = three(1000, 1000);
        m.comes(0);
        due.is("deal(0, 1, 1)", m.deal(0, 1, 1), STATE);
        due.is("deal(1, 6, -1)", m.deal(1, 6, -1), STATE);
        due.is("a new TRADER", m.trader(0, 9000), 2);
        due.is("his DEAL", m.deal(2, 1, 1), STATE);
        due.is("three DEALS", m.told(5), 3);
        due.is("of the first", m.of(0, 2), 1);
    }

    private static void comesForTheEdgeCases() {
        due.sentence("8", "IT COMES TRUE: 1.");
        for (int n = 2; n <= 8; n++) {
            for (int c : new int[] {0, n - 1}) {
                BetMaker m = Scene.begun(n, 10);
                due.is("comes(" + c + ") of " + n, m.comes(c), 1);
                due.is("it CAME", m.maker(4), c);
            }
        }
    }

    private static void comesUnknown() {
        due.sentence("8", "UNKNOWN: CASE; STATE: IT CAME already.");
        for (int n = 2; n <= 8; n++) {
            BetMaker m = Scene.begun(n, 10, 50);
            for (int c : Scene.noneOf(n)) {
                due.is("comes(" + c + ") of " + n, m.comes(c), UNKNOWN);
            }
            due.is("nothing CAME", m.maker(4), BetMaker.NONE);
            due.is("DEALS go on", m.barred(0, 1, 1), 0);
        }
    }

    private static void comesTwice() {
        due.sentence("8", "STATE: IT CAME already.");
        BetMaker m = three(1000, 1000);
        m.comes(0);
        String once = Seen.of(m);
        m = three(1000, 1000);
        m.comes(0);
        due.is("the same", m.comes(0), STATE);
        due.is("another", m.comes(2), STATE);
        for (int c : Scene.noneOf(3)) {
            due.is("UNKNOWN is ahead: " + c, m.comes(c), UNKNOWN);
        }
        due.holds("nothing changes", Seen.of(m).equals(once));
    }

    // ---- about

    private static void aboutSoldAndPrice() {
        due.sentence("9", "Of a CASE: 0 SOLD, 1 PRICE in GRAINS");
        for (int n = 2; n <= 8; n++) {
            BetMaker m = Scene.begun(n, 10, 9000);
            m.deal(0, 1 << (n - 1), 1);
            due.is("SOLD of the last", m.about(n - 1, 0), 1);
            due.is("SOLD of the first", m.about(0, 0), 0);
            due.is("PRICE of the last", m.about(n - 1, 1), 40 + 2 * (n - 1));
            due.is("PRICE of the first", m.about(0, 1), 38);
        }
    }

    private static void aboutHolders() {
        due.sentence("9", "2 how many TRADERS HOLD more than 0 of it");
        BetMaker m = Scene.begun(3, 100, 9000, 9000, 9000, 9000, 9000, 9000);
        due.is("none", m.about(0, 2), 0);
        m.deal(0, 1, 1);
        m.deal(1, 1, -1);
        m.deal(2, 1, 4);
        due.is("below 0 is not more than 0", m.about(0, 2), 2);
        m.deal(2, 1, -4);
        due.is("0 is not more than 0", m.about(0, 2), 1);
        for (int t = 0; t < 6; t++) {
            m.deal(t, 1, 2);
        }
        due.is("all six", m.about(0, 2), 6);
        due.is("of another CASE", m.about(2, 2), 0);
    }

    private static void aboutRefused() {
        due.sentence("9", "LOST: UNKNOWN, OUTSIDE.");
        for (int n = 2; n <= 8; n++) {
            BetMaker m = Scene.begun(n, 10);
            for (int c : Scene.noneOf(n)) {
                for (int what = 0; what <= 2; what++) {
                    due.is("about(" + c + ", " + what + ") of " + n, m.about(c, what), LOST);
                }
            }
            for (int what : new int[] {LEAST, -1, 3, 4, GREATEST}) {
                due.is("about(0, " + what + ")", m.about(0, what), LOST);
            }
        }
    }

    // ---- maker

    private static void gainWithAll() {
        due.sentence("8, 10", "THE MAKER's GAIN: all that TRADERS paid, less all that they got "
            + "(also when IT COMES TRUE), in GRAINS");
        long paid = level(10, 3, 0, 3);
        long[] got = {360, 0, 360};
        for (int c = 0; c < 3; c++) {
            BetMaker m = three(1000, 1000);
            due.is("before", m.maker(1), paid);
            m.comes(c);
            due.is("CASE " + c + " CAME", m.maker(1), paid - got[c]);
        }
        BetMaker m = Scene.begun(3, 10, 1000);
        m.deal(0, 1, -2);
        due.is("below 0, for they got", m.maker(1), level(10, -2, 0, 0));
    }

    private static void worstOverAllCases() {
        due.sentence("10", "WORST: the least that it would be, if IT came TRUE now, over all CASES.");
        int[][][] runs = {{{1, 3}}, {{2, 3}}, {{4, 3}}, {{1, -3}}, {{3, -3}, {4, -1}}, {{1, -2}, {6, -4}},
            {{1, 2}, {2, 5}, {4, 4}}};
        for (int[][] run : runs) {
            long least = Long.MAX_VALUE;
            for (int c = 0; c < 3; c++) {
                BetMaker m = dealt(run);
                m.comes(c);
                least = Math.min(least, m.maker(1));
            }
            due.is("WORST of " + java.util.Arrays.deepToString(run), dealt(run).maker(2), least);
        }
    }

    private static BetMaker dealt(int[][] run) {
        BetMaker m = Scene.begun(3, 10, 9000);
        for (int[] deal : run) {
            m.deal(0, deal[0], deal[1]);
        }
        return m;
    }

    private static void worstOfNothing() {
        due.sentence("10", "THE MAKER: 0 THE LEVEL, 1 GAIN, 2 WORST");
        for (int what = 0; what <= 2; what++) {
            due.is("no TRADER: " + what, Scene.begun(8, 1000).maker(what), 0);
            due.is("no DEAL: " + what, Scene.begun(8, 1000, 5, 5).maker(what), 0);
        }
    }

    private static void worstAfterItCame() {
        due.sentence("10", "2 WORST (GAIN, if IT CAME TRUE)");
        for (int c = 0; c < 3; c++) {
            BetMaker m = three(1000, 1000);
            m.comes(c);
            due.is("CASE " + c, m.maker(2), m.maker(1));
        }
    }

    private static void cameOrNone() {
        due.sentence("10", "4 the CASE that CAME TRUE (NONE).");
        BetMaker m = three(1000, 1000);
        due.is("none", m.maker(4), BetMaker.NONE);
        m.comes(3);
        due.is("a refused one", m.maker(4), BetMaker.NONE);
        m.comes(0);
        due.is("CASE 0", m.maker(4), 0);
        m.comes(1);
        due.is("CASE 0 still", m.maker(4), 0);
    }

    private static void makerOutside() {
        due.sentence("10", "LOST: OUTSIDE.");
        BetMaker m = three(1000, 1000);
        for (int what : new int[] {LEAST, -1, 5, 6, GREATEST}) {
            due.is("maker(" + what + ")", m.maker(what), LOST);
        }
    }

    // ---- told

    private static void toldCounts() {
        due.sentence("33", "How many: 0 N, 1 B, 2 TRADERS, 3 OFFERS, 4 FORECASTS, 5 DEALS of all.");
        BetMaker m = full();
        long[] most = {3, 10, 6, 6, 40, 6};
        m.trader(0, 0);
        m.offer(1, 1, 1);
        m.forecast(0, 0, 0, 0);
        m.deal(0, 1, 0);
        m.deal(0, 1, 1000);
        for (int what = 0; what <= 5; what++) {
            due.is("told(" + what + "), when all is FULL", m.told(what), most[what]);
        }
        m.comes(0);
        for (int what = 0; what <= 5; what++) {
            due.is("told(" + what + "), after IT CAME", m.told(what), most[what]);
        }
        m.most(0, 0);
        due.is("an OFFER of none is one still", m.told(3), 6);
    }

    private static void toldOutside() {
        due.sentence("33", "OUTSIDE.");
        BetMaker m = full();
        for (int what : new int[] {LEAST, -1, 6, 7, GREATEST}) {
            due.is("told(" + what + ")", m.told(what), OUTSIDE);
        }
    }
}

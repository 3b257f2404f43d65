import java.util.Arrays;

/**
 * Bets that tell: a maker of prices, traders with purses and beliefs, a board
 * of others' offers, and forecasts held against what came.
 *
 * Terms in comments (GRAINS, LEVEL, SURE ..) are those of the document.
 */
public final class BetMaker {
    public static final int UNKNOWN = -1, OUTSIDE = -2, STATE = -3, FULL = -4, NONE = -9;
    public static final long LOST = Long.MIN_VALUE;

    private static final int NULL = 1, CAST = 2, INDEX = 3, SIZE = 4;
    private static final int MOST_CASES = 8;
    private static final int MOST_B = 1000;
    private static final int MOST_TRADERS = 6;
    private static final long MOST_PURSE = 1000000000000L;
    private static final int MOST_SHARES = 1000;
    private static final int MOST_SOUGHT = 50;
    private static final int MOST_WEIGHT = 100;
    private static final int MOST_OFFERS = 6;
    private static final int MOST_OFFERED = 3;
    private static final int MOST_BUNDLES = 4096;
    private static final int MOST_FORECASTS = 40;
    private static final int MOST_HELD = 15;
    private static final int SHEETS = 4;
    private static final int MOST_CELLS = 24;
    private static final int MOST_LANE = 2;
    private static final int PLAIN = 0, WARY = 1, SURE = 2;

    private final Maker maker = new Maker();
    private final Plain[] traders = new Plain[MOST_TRADERS];
    private int traderCount;
    private final Board board = new Board();
    private final Log forecasts = new Log();
    private final Sheet[] sheets = new Sheet[SHEETS];
    private final Trace trace = new Trace();
    private final int[] taken = new int[MOST_CASES];
    private int latestFault;

    public BetMaker() {
        for (int k = 0; k < SHEETS; k++) {
            sheets[k] = new Sheet();
        }
        maker.restart(2, 100);
    }

    // ---- 1 the maker

    /** Leaves fault() as it is: that is told of calls, and this one names no FAULT. */
    public int begin(int n, int b) {
        if (n < 2 || n > MOST_CASES || b < 1 || b > MOST_B) {
            return OUTSIDE;
        }
        maker.restart(n, b);
        traderCount = 0;
        board.empty();
        forecasts.empty();
        return 1;
    }

    public int trader(int kind, long purse) {
        if (!isKind(kind) || purse < 0 || purse > MOST_PURSE) {
            return OUTSIDE;
        }
        if (traderCount >= MOST_TRADERS) {
            return FULL;
        }
        traders[traderCount] = newTrader(kind, traderCount, purse);
        traderCount++;
        return traderCount - 1;
    }

    public long price(int set) {
        return maker.isSet(set) ? maker.setPrice(set) : LOST;
    }

    public long quote(int t, int set, int x) {
        if (findTrader(t) == null || !isOrder(set, x)) {
            return LOST;
        }
        return maker.cost(set, x);
    }

    public int barred(int t, int set, int x) {
        Plain who = findTrader(t);
        if (who == null) {
            return UNKNOWN;
        }
        if (!isOrder(set, x)) {
            return OUTSIDE;
        }
        return maker.hasCome() ? STATE : whyBarred(who, set, x);
    }

    public int deal(int t, int set, int x) {
        Plain who = findTrader(t);
        if (who == null) {
            return UNKNOWN;
        }
        if (!isOrder(set, x)) {
            return OUTSIDE;
        }
        if (maker.hasCome()) {
            return STATE;
        }
        int why = whyBarred(who, set, x);
        if (why != 0) {
            return -20 - why;
        }
        long pays = maker.cost(set, x);
        maker.sell(set, x, pays);
        who.buy(set, x, pays);
        return who.deals();
    }

    public int comes(int c) {
        if (!maker.isCase(c)) {
            return UNKNOWN;
        }
        if (maker.hasCome()) {
            return STATE;
        }
        long won = 0;
        for (int t = 0; t < traderCount; t++) {
            Plain who = findTrader(t);
            if (who != null) {
                won += who.settle(c, maker.unit());
            }
        }
        maker.settle(c, won);
        return 1;
    }

    public long about(int c, int what) {
        if (!maker.isCase(c)) {
            return LOST;
        }
        switch (what) {
            case 0: return maker.soldOf(c);
            case 1: return maker.casePrice(c);
            case 2: return countHolders(c);
            default: return LOST;
        }
    }

    public long maker(int what) {
        switch (what) {
            case 0: return maker.level();
            case 1: return maker.gain();
            case 2: return maker.worst();
            case 3: return maker.unit();
            case 4: return maker.came();
            default: return LOST;
        }
    }

    // ---- 2 traders

    public long of(int t, int what) {
        Plain who = findTrader(t);
        if (who == null) {
            return LOST;
        }
        switch (what) {
            case 0: return who.purse();
            case 1: return who.leastHeld(0, 0);
            case 2: return who.deals();
            case 3: return who.kind();
            case 4: return who.weightSum();
            default: return ofCase(who, what);
        }
    }

    public int believe(int t, int c, int v) {
        Plain who = findTrader(t);
        if (who == null || !maker.isCase(c)) {
            return UNKNOWN;
        }
        if (!isWeight(v)) {
            return OUTSIDE;
        }
        int was = who.weightOf(c);
        if (who.weightSum() - was + v == 0) {
            return STATE;
        }
        who.weigh(c, v);
        return was;
    }

    public int beliefs(int t, int sheet, int lane, int i) {
        latestFault = 0;
        Plain who = findTrader(t);
        Sheet from = findSheet(sheet);
        if (who == null || from == null) {
            return UNKNOWN;
        }
        int answer = takeWeights(from, lane, i);
        if (answer > 0) {
            who.weighAll(taken);
        }
        return answer;
    }

    public long worth(int t, int set, int x) {
        Plain who = findTrader(t);
        if (who == null || !isOrder(set, x)) {
            return LOST;
        }
        return worthTo(who, set, x);
    }

    public long best(int t, int set) {
        Plain who = findTrader(t);
        if (who == null || !maker.isSet(set) || maker.hasCome()) {
            return LOST;
        }
        int best = 0;
        long most = 0;
        // 1, -1, 2, -2 ..: in the order of preference, so that only a greater
        // WORTH may take the place of what was found before.
        for (int k = 2; k <= 2 * MOST_SOUGHT + 1; k++) {
            int x = k % 2 == 0 ? k / 2 : -(k / 2);
            long gain = worthTo(who, set, x);
            if (gain > most && whyBarred(who, set, x) == 0) {
                most = gain;
                best = x;
            }
        }
        return best;
    }

    // ---- 3 offers, forecasts

    public int offer(int set, int at, int m) {
        if (!maker.isSet(set) || at < 1 || at > 99 || m < 1 || m > MOST_OFFERED) {
            return OUTSIDE;
        }
        return board.isFull() ? FULL : board.add(new Offer(set, at, m));
    }

    public int most(int f, int m) {
        Offer offer = board.find(f);
        if (offer == null) {
            return UNKNOWN;
        }
        if (m < 0 || m > MOST_OFFERED) {
            return OUTSIDE;
        }
        return board.limit(offer, m);
    }

    public int sure() {
        return board.bestGain(maker.cases());
    }

    public int bundle(int f) {
        return board.find(f) == null ? UNKNOWN : board.bestShares(f, maker.cases());
    }

    public int forecast(int sheet, int lane, int i, int c) {
        latestFault = 0;
        Sheet from = findSheet(sheet);
        if (from == null || !maker.isCase(c)) {
            return UNKNOWN;
        }
        int answer = takeWeights(from, lane, i);
        if (answer <= 0) {
            return answer;
        }
        if (forecasts.isFull()) {
            return FULL;
        }
        return forecasts.add(new Forecast(Arrays.copyOf(taken, maker.cases()), c));
    }

    public long score(int f, int which) {
        Forecast forecast = forecasts.find(f);
        if (forecast == null || which < 0 || which > 1) {
            return LOST;
        }
        return leastTerms(forecast.scoreUpper(forecast.came()), forecast.scoreLower(), which);
    }

    public long honest(int t, int f, int which) {
        Plain who = findTrader(t);
        Forecast forecast = forecasts.find(f);
        if (who == null || forecast == null || which < 0 || which > 1) {
            return LOST;
        }
        long upper = 0;
        for (int c = 0; c < maker.cases(); c++) {
            upper += who.weightOf(c) * forecast.scoreUpper(c);
        }
        return leastTerms(upper, forecast.scoreLower() * who.weightSum(), which);
    }

    public long held(int c, int t, int what) {
        if (!maker.isCase(c) || t < 0 || t > 10) {
            return LOST;
        }
        int given = forecasts.countGiven(c, t);
        int came = forecasts.countCame(c, t);
        switch (what) {
            case 0: return given;
            case 1: return came;
            case 2: return given > MOST_HELD ? LOST : howLikely(given, came, t);
            default: return LOST;
        }
    }

    // ---- sheets, parts

    public int sheet(int k, int lane, int n) {
        latestFault = 0;
        Sheet sheet = findSheet(k);
        if (sheet == null) {
            return UNKNOWN;
        }
        if (!isLane(lane) || n > MOST_CELLS) {
            return OUTSIDE;
        }
        if (n < 0) {
            return meet(SIZE);
        }
        sheet.renew(lane, n);
        return 1;
    }

    public int lose(int k) {
        Sheet sheet = findSheet(k);
        if (sheet == null) {
            return UNKNOWN;
        }
        return sheet.drop() ? 1 : 0;
    }

    public int put(int k, int i, int v) {
        latestFault = 0;
        Sheet sheet = findSheet(k);
        if (sheet == null) {
            return UNKNOWN;
        }
        int fault = sheet.reachFault(i, 1);
        if (fault != 0) {
            return meet(fault);
        }
        sheet.write(i, v);
        return 1;
    }

    public long at(int k, int i, int lane) {
        latestFault = 0;
        Sheet sheet = findSheet(k);
        if (sheet == null || !isLane(lane)) {
            return LOST;
        }
        int fault = sheet.readFault(lane, i, 1);
        if (fault != 0) {
            meet(fault);
            return LOST;
        }
        return sheet.read(i);
    }

    public int tell(int t) {
        Plain who = findTrader(t);
        return who == null ? UNKNOWN : who.telling(trace);
    }

    public int greet(int t) {
        Plain who = findTrader(t);
        return who == null ? UNKNOWN : who.greeting(trace);
    }

    public int as(int t, int kind) {
        latestFault = 0;
        Plain who = findTrader(t);
        if (who == null) {
            return UNKNOWN;
        }
        if (!isKind(kind)) {
            return OUTSIDE;
        }
        return isOfKind(who, kind) ? 1 : meet(CAST);
    }

    public int trace() {
        return trace.value();
    }

    public int fault() {
        return latestFault;
    }

    public int told(int what) {
        switch (what) {
            case 0: return maker.cases();
            case 1: return maker.breadth();
            case 2: return traderCount;
            case 3: return board.size();
            case 4: return forecasts.size();
            case 5: return countDeals();
            default: return OUTSIDE;
        }
    }

    // ---- what the calls share

    private static boolean isKind(int kind) {
        return kind >= PLAIN && kind <= SURE;
    }

    private static boolean isLane(int lane) {
        return lane >= 0 && lane <= MOST_LANE;
    }

    private static boolean isWeight(int v) {
        return v >= 0 && v <= MOST_WEIGHT;
    }

    private static boolean isIn(int set, int c) {
        return (set >> c & 1) != 0;
    }

    private boolean isOrder(int set, int x) {
        return maker.isSet(set) && x != 0 && x >= -MOST_SHARES && x <= MOST_SHARES;
    }

    private Plain findTrader(int t) {
        return t >= 0 && t < traderCount && t < MOST_TRADERS ? traders[t] : null;
    }

    private Sheet findSheet(int k) {
        return k >= 0 && k < SHEETS ? sheets[k] : null;
    }

    private Plain newTrader(int kind, int number, long purse) {
        switch (kind) {
            case SURE: return new Sure(number, purse, maker.cases());
            case WARY: return new Wary(number, purse, maker.cases());
            default: return new Plain(number, purse, maker.cases());
        }
    }

    private static boolean isOfKind(Plain who, int kind) {
        switch (kind) {
            case SURE: return who instanceof Sure;
            case WARY: return who instanceof Wary;
            default: return true;
        }
    }

    private int meet(int fault) {
        latestFault = fault;
        return -10 - fault;
    }

    private int whyBarred(Plain who, int set, int x) {
        if (!maker.allowsPrices(set, x)) {
            return 1;
        }
        long left = who.purse() - maker.cost(set, x);
        return left + maker.unit() * who.leastHeld(set, x) < 0 ? 2 : 0;
    }

    private long worthTo(Plain who, int set, int x) {
        return who.weightIn(set) * x * maker.unit() - who.weightSum() * maker.cost(set, x);
    }

    private int countHolders(int c) {
        int holders = 0;
        for (int t = 0; t < traderCount; t++) {
            Plain who = findTrader(t);
            if (who != null && who.heldOf(c) > 0) {
                holders++;
            }
        }
        return holders;
    }

    private int countDeals() {
        int deals = 0;
        for (int t = 0; t < traderCount; t++) {
            Plain who = findTrader(t);
            if (who != null) {
                deals += who.deals();
            }
        }
        return deals;
    }

    private long ofCase(Plain who, int what) {
        if (what >= 10 && maker.isCase(what - 10)) {
            return who.heldOf(what - 10);
        }
        if (what >= 20 && maker.isCase(what - 20)) {
            return who.weightOf(what - 20);
        }
        return LOST;
    }

    /** Takes N weights into the row kept for it: their sum, or why not (below 0). */
    private int takeWeights(Sheet from, int lane, int i) {
        if (!isLane(lane)) {
            return OUTSIDE;
        }
        int fault = from.readFault(lane, i, maker.cases());
        if (fault != 0) {
            return meet(fault);
        }
        int sum = 0;
        for (int c = 0; c < maker.cases() && c < MOST_CASES; c++) {
            int weight = from.read(i + c);
            if (!isWeight(weight)) {
                return OUTSIDE;
            }
            taken[c] = weight;
            sum += weight;
        }
        return sum == 0 ? OUTSIDE : sum;
    }

    private static long leastTerms(long upper, long lower, int which) {
        long common = greatestDivisor(Math.abs(upper), lower);
        if (common == 0) {
            return LOST;
        }
        return which == 0 ? upper / common : lower / common;
    }

    private static long greatestDivisor(long a, long b) {
        // Two longs are through in fewer than 100 steps.
        for (int step = 0; step < 100 && b != 0; step++) {
            long rest = a % b;
            a = b;
            b = rest;
        }
        return a;
    }

    private static long howLikely(int n, int h, int tenths) {
        long sum = 0;
        long ways = 1;
        for (int j = 0; j <= n; j++) {
            if (j >= h) {
                sum += ways * power(tenths, j) * power(10 - tenths, n - j);
            }
            ways = ways * (n - j) / (j + 1);
        }
        return sum;
    }

    private static long power(int base, int exponent) {
        long product = 1;
        for (int k = 0; k < exponent; k++) {
            product *= base;
        }
        return product;
    }

    /** THE MAKER: what is SOLD, and the prices that follow from it. */
    static final class Maker {
        private final long[] sold = new long[MOST_CASES];
        private int cases;
        private int breadth;
        private long soldSum;
        private long gain;
        private int came;

        void restart(int n, int b) {
            Arrays.fill(sold, 0);
            cases = n;
            breadth = b;
            soldSum = 0;
            gain = 0;
            came = NONE;
        }

        int cases() {
            return cases;
        }

        int breadth() {
            return breadth;
        }

        long gain() {
            return gain;
        }

        int came() {
            return came;
        }

        boolean hasCome() {
            return came != NONE;
        }

        long unit() {
            return 4L * breadth * cases;
        }

        boolean isCase(int c) {
            return c >= 0 && c < cases;
        }

        boolean isSet(int set) {
            return set >= 1 && set <= (1 << cases) - 2;
        }

        long soldOf(int c) {
            return isCase(c) && c < MOST_CASES ? sold[c] : 0;
        }

        long casePrice(int c) {
            return 4L * breadth + 2 * (cases * soldOf(c) - soldSum);
        }

        long setPrice(int set) {
            long sum = 0;
            for (int c = 0; c < cases; c++) {
                if (isIn(set, c)) {
                    sum += casePrice(c);
                }
            }
            return sum;
        }

        long level() {
            long squares = 0;
            for (int c = 0; c < cases; c++) {
                squares += soldOf(c) * soldOf(c);
            }
            return 4L * breadth * soldSum + cases * squares - soldSum * soldSum;
        }

        /** What THE LEVEL grows by: its difference, worked out, leaves just this. */
        long cost(int set, int x) {
            long size = Integer.bitCount(set);
            return x * setPrice(set) + size * (cases - size) * x * x;
        }

        boolean allowsPrices(int set, int x) {
            long sumGrowth = (long) Integer.bitCount(set) * x;
            for (int c = 0; c < cases; c++) {
                long growth = isIn(set, c) ? x : 0;
                long price = casePrice(c) + 2 * (cases * growth - sumGrowth);
                if (price < 0 || price > unit()) {
                    return false;
                }
            }
            return true;
        }

        void sell(int set, int x, long paid) {
            for (int c = 0; c < cases && c < MOST_CASES; c++) {
                if (isIn(set, c)) {
                    sold[c] += x;
                    soldSum += x;
                }
            }
            gain += paid;
        }

        void settle(int c, long won) {
            came = c;
            gain -= won;
        }

        long worst() {
            if (hasCome()) {
                return gain;
            }
            long most = soldOf(0);
            for (int c = 1; c < cases; c++) {
                most = Math.max(most, soldOf(c));
            }
            return gain - unit() * most;
        }
    }

    /** A TRADER; the other kinds build upon this one. */
    static class Plain {
        private final int number;
        private final long[] holds;
        private final int[] weights;
        private long purse;
        private int deals;

        Plain(int number, long purse, int cases) {
            this.number = number;
            this.purse = purse;
            holds = new long[cases];
            weights = new int[cases];
            Arrays.fill(weights, 1);
        }

        int kind() {
            return PLAIN;
        }

        final long purse() {
            return purse;
        }

        final int deals() {
            return deals;
        }

        final long heldOf(int c) {
            return c >= 0 && c < holds.length ? holds[c] : 0;
        }

        final int weightOf(int c) {
            return c >= 0 && c < weights.length ? weights[c] : 0;
        }

        final long weightIn(int set) {
            long sum = 0;
            for (int c = 0; c < weights.length; c++) {
                if (isIn(set, c)) {
                    sum += weights[c];
                }
            }
            return sum;
        }

        final long weightSum() {
            long sum = 0;
            for (int weight : weights) {
                sum += weight;
            }
            return sum;
        }

        final void weigh(int c, int v) {
            if (c >= 0 && c < weights.length) {
                weights[c] = v;
            }
        }

        final void weighAll(int[] row) {
            for (int c = 0; c < weights.length && c < row.length; c++) {
                weights[c] = row[c];
            }
        }

        /** The least that he HOLDS of any CASE, with x more of a SET. */
        final long leastHeld(int set, int x) {
            long least = Long.MAX_VALUE;
            for (int c = 0; c < holds.length; c++) {
                least = Math.min(least, holds[c] + (isIn(set, c) ? x : 0));
            }
            return least;
        }

        final void buy(int set, int x, long pays) {
            for (int c = 0; c < holds.length; c++) {
                if (isIn(set, c)) {
                    holds[c] += x;
                }
            }
            purse -= pays;
            deals++;
        }

        final long settle(int c, long unit) {
            long won = unit * heldOf(c);
            purse += won;
            Arrays.fill(holds, 0);
            return won;
        }

        int telling(Trace trace) {
            return plainTelling(trace);
        }

        /** Kept apart from telling(), so that SURE ones reach it past WARY's. */
        final int plainTelling(Trace trace) {
            trace.leave(1);
            return deals;
        }

        int greeting(Trace trace) {
            trace.leave(4);
            return number;
        }
    }

    static class Wary extends Plain {
        Wary(int number, long purse, int cases) {
            super(number, purse, cases);
        }

        int kind() {
            return WARY;
        }

        int telling(Trace trace) {
            trace.leave(2);
            return plainTelling(trace) + 100;
        }
    }

    static final class Sure extends Wary {
        Sure(int number, long purse, int cases) {
            super(number, purse, cases);
        }

        int kind() {
            return SURE;
        }

        int telling(Trace trace) {
            trace.leave(3);
            int wary = super.telling(trace);
            return wary + plainTelling(trace);
        }

        int greeting(Trace trace) {
            trace.leave(5);
            return 90;
        }
    }

    static final class Trace {
        private int value;

        void leave(int body) {
            value = 31 * value + body;
        }

        int value() {
            return value;
        }
    }

    static final class Offer {
        private final int set;
        private final int cost;
        private int shares;

        Offer(int set, int cost, int shares) {
            this.set = set;
            this.cost = cost;
            this.shares = shares;
        }

        int set() {
            return set;
        }

        int cost() {
            return cost;
        }

        int shares() {
            return shares;
        }

        void limit(int m) {
            shares = m;
        }
    }

    /** THE BOARD. BEST BUNDLE is kept until an OFFER changes, for it is dear to find. */
    static final class Board {
        private final Offer[] offers = new Offer[MOST_OFFERS];
        private final int[] row = new int[MOST_OFFERS];
        private final int[] bestRow = new int[MOST_OFFERS];
        private final int[] covered = new int[MOST_CASES];
        private int size;
        private int cost;
        private int bestGain;
        private boolean searched;

        void empty() {
            size = 0;
            searched = false;
        }

        int size() {
            return size;
        }

        Offer find(int f) {
            return f >= 0 && f < size && f < MOST_OFFERS ? offers[f] : null;
        }

        boolean isFull() {
            return size >= MOST_OFFERS;
        }

        int add(Offer offer) {
            if (isFull()) {
                return FULL;
            }
            offers[size] = offer;
            size++;
            searched = false;
            return size - 1;
        }

        int limit(Offer offer, int m) {
            int was = offer.shares();
            offer.limit(m);
            searched = false;
            return was;
        }

        int bestGain(int cases) {
            search(cases);
            return bestGain;
        }

        int bestShares(int f, int cases) {
            search(cases);
            return f >= 0 && f < MOST_OFFERS ? bestRow[f] : 0;
        }

        private void search(int cases) {
            if (searched) {
                return;
            }
            clearRows();
            // Rows come in their order, so only a greater SURE displaces one.
            for (int k = 1; k < MOST_BUNDLES && nextRow(); k++) {
                int gain = 100 * leastCovered(cases) - cost;
                if (gain > bestGain) {
                    bestGain = gain;
                    System.arraycopy(row, 0, bestRow, 0, MOST_OFFERS);
                }
            }
            searched = true;
        }

        private void clearRows() {
            Arrays.fill(row, 0);
            Arrays.fill(bestRow, 0);
            Arrays.fill(covered, 0);
            cost = 0;
            bestGain = 0;
        }

        private boolean nextRow() {
            for (int f = size - 1; f >= 0; f--) {
                Offer offer = find(f);
                if (offer != null && row[f] < offer.shares()) {
                    change(f, offer, 1);
                    return true;
                }
                if (offer != null) {
                    change(f, offer, -row[f]);
                }
            }
            return false;
        }

        private void change(int f, Offer offer, int by) {
            row[f] += by;
            cost += by * offer.cost();
            for (int c = 0; c < MOST_CASES; c++) {
                if (isIn(offer.set(), c)) {
                    covered[c] += by;
                }
            }
        }

        private int leastCovered(int cases) {
            int least = covered[0];
            for (int c = 1; c < cases && c < MOST_CASES; c++) {
                least = Math.min(least, covered[c]);
            }
            return least;
        }
    }

    static final class Forecast {
        private final int[] weights;
        private final int came;
        private final long sum;
        private final long squares;

        Forecast(int[] weights, int came) {
            this.weights = weights;
            this.came = came;
            long all = 0;
            long allSquares = 0;
            for (int weight : weights) {
                all += weight;
                allSquares += weight * weight;
            }
            sum = all;
            squares = allSquares;
        }

        int came() {
            return came;
        }

        long scoreUpper(int c) {
            return 2 * sum * weightOf(c) - squares;
        }

        long scoreLower() {
            return sum * sum;
        }

        boolean gave(int c, int tenths) {
            return 10 * weightOf(c) == tenths * sum;
        }

        private long weightOf(int c) {
            return c >= 0 && c < weights.length ? weights[c] : 0;
        }
    }

    /** All FORECASTS, as they came. */
    static final class Log {
        private final Forecast[] kept = new Forecast[MOST_FORECASTS];
        private int size;

        void empty() {
            size = 0;
        }

        int size() {
            return size;
        }

        boolean isFull() {
            return size >= MOST_FORECASTS;
        }

        int add(Forecast forecast) {
            if (isFull()) {
                return FULL;
            }
            kept[size] = forecast;
            size++;
            return size - 1;
        }

        Forecast find(int f) {
            return f >= 0 && f < size && f < MOST_FORECASTS ? kept[f] : null;
        }

        int countGiven(int c, int tenths) {
            int count = 0;
            for (int f = 0; f < size; f++) {
                Forecast forecast = find(f);
                if (forecast != null && forecast.gave(c, tenths)) {
                    count++;
                }
            }
            return count;
        }

        int countCame(int c, int tenths) {
            int count = 0;
            for (int f = 0; f < size; f++) {
                Forecast forecast = find(f);
                if (forecast != null && forecast.came() == c && forecast.gave(c, tenths)) {
                    count++;
                }
            }
            return count;
        }
    }

    /** A SHEET; its cells are made once, and only their use is renewed. */
    static final class Sheet {
        private final int[] cells = new int[MOST_CELLS];
        private boolean there;
        private int lane;
        private int length;

        void renew(int newLane, int n) {
            Arrays.fill(cells, 0);
            there = true;
            lane = newLane;
            length = n;
        }

        boolean drop() {
            boolean was = there;
            there = false;
            return was;
        }

        /** The first fault in reaching n cells from i on; 0: none. */
        int reachFault(int i, int n) {
            if (!there) {
                return NULL;
            }
            return i < 0 || i > length - n ? INDEX : 0;
        }

        int readFault(int asLane, int i, int n) {
            return there && lane != asLane ? CAST : reachFault(i, n);
        }

        void write(int i, int v) {
            if (i >= 0 && i < length && i < MOST_CELLS) {
                cells[i] = cut(v);
            }
        }

        int read(int i) {
            return i >= 0 && i < length && i < MOST_CELLS ? cells[i] : 0;
        }

        private int cut(int v) {
            switch (lane) {
                case 0: return (byte) v;
                case 1: return (short) v;
                default: return v;
            }
        }
    }
}

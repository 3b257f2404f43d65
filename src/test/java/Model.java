import java.math.BigInteger;
import java.util.ArrayList;
import java.util.Comparator;
import java.util.List;

/**
 * The document once more, in other words than BetMaker's: all is worked out
 * anew from lists of what was done, in numbers without a bound, and FAULTS
 * are those that this machine throws.
 */
final class Model {
    private static final int UNKNOWN = -1, OUTSIDE = -2, STATE = -3, FULL = -4, NONE = -9;
    private static final long LOST = Long.MIN_VALUE;

    private record Bargain(int t, int set, int x, BigInteger pays) { }

    private record Told(int[] weights, int came) { }

    private record Ratio(BigInteger upper, BigInteger lower) {
        long part(int which) {
            BigInteger g = upper.gcd(lower);
            return (which == 0 ? upper : lower).divide(g).longValueExact();
        }
    }

    private interface Greeted {
        Model model();

        int number();

        default int greeted() {
            model().leave(4);
            return number();
        }
    }

    private static class P implements Greeted {
        final Model model;
        final int number;
        final long given;
        int[] belief;

        P(Model model, int number, long given) {
            this.model = model;
            this.number = number;
            this.given = given;
            belief = new int[model.n];
            java.util.Arrays.fill(belief, 1);
        }

        public Model model() {
            return model;
        }

        public int number() {
            return number;
        }

        int kind() {
            return 0;
        }

        int telling() {
            return plain();
        }

        final int plain() {
            model.leave(1);
            return model.dealsOf(number);
        }
    }

    private static class W extends P {
        W(Model model, int number, long given) {
            super(model, number, given);
        }

        int kind() {
            return 1;
        }

        int telling() {
            model.leave(2);
            return super.telling() + 100;
        }
    }

    private static final class S extends W {
        S(Model model, int number, long given) {
            super(model, number, given);
        }

        int kind() {
            return 2;
        }

        int telling() {
            model.leave(3);
            return super.telling() + plain();
        }

        public int greeted() {
            model.leave(5);
            return 90;
        }
    }

    private final Object[] sheets = new Object[4];
    private int trace;
    private int fault;
    private int n;
    private int b;
    private List<P> traders;
    private List<Bargain> bargains;
    private List<int[]> offers;
    private List<Told> forecasts;
    private int came;

    Model() {
        anew(2, 100);
    }

    private void anew(int cases, int width) {
        n = cases;
        b = width;
        traders = new ArrayList<>();
        bargains = new ArrayList<>();
        offers = new ArrayList<>();
        forecasts = new ArrayList<>();
        came = NONE;
    }

    private void leave(int body) {
        trace = trace * 31 + body;
    }

    private int dealsOf(int t) {
        return (int) bargains.stream().filter(d -> d.t == t).count();
    }

    private boolean noTrader(int t) {
        return t < 0 || t >= traders.size();
    }

    private boolean noCase(int c) {
        return c < 0 || c >= n;
    }

    private boolean noSet(int set) {
        return set < 1 || set > Math.pow(2, n) - 2;
    }

    private boolean noShares(int x) {
        return x == 0 || Math.abs((long) x) > 1000;
    }

    private static boolean has(int set, int c) {
        return set / (1 << c) % 2 == 1;
    }

    private static BigInteger big(long v) {
        return BigInteger.valueOf(v);
    }

    private BigInteger u() {
        return big(4L * b * n);
    }

    private BigInteger[] sold(int set, int x) {
        BigInteger[] sold = new BigInteger[n];
        for (int c = 0; c < n; c++) {
            long sum = has(set, c) ? x : 0;
            for (Bargain d : bargains) {
                sum += has(d.set, c) ? d.x : 0;
            }
            sold[c] = big(sum);
        }
        return sold;
    }

    private static BigInteger sum(BigInteger[] row) {
        BigInteger s = BigInteger.ZERO;
        for (BigInteger v : row) {
            s = s.add(v);
        }
        return s;
    }

    private BigInteger levelOf(BigInteger[] sold) {
        BigInteger s = sum(sold);
        BigInteger t = BigInteger.ZERO;
        for (BigInteger v : sold) {
            t = t.add(v.pow(2));
        }
        return big(4L * b).multiply(s).add(big(n).multiply(t)).subtract(s.pow(2));
    }

    private BigInteger priceOf(BigInteger[] sold, int c) {
        return big(4L * b).add(big(2).multiply(big(n).multiply(sold[c]).subtract(sum(sold))));
    }

    private BigInteger pays(int set, int x) {
        return levelOf(sold(set, x)).subtract(levelOf(sold(0, 0)));
    }

    private BigInteger bought(int t, int c) {
        BigInteger held = BigInteger.ZERO;
        for (Bargain d : bargains) {
            held = d.t == t && has(d.set, c) ? held.add(big(d.x)) : held;
        }
        return held;
    }

    private BigInteger holds(int t, int c) {
        return came == NONE ? bought(t, c) : BigInteger.ZERO;
    }

    private BigInteger purse(int t) {
        BigInteger purse = big(traders.get(t).given);
        for (Bargain d : bargains) {
            purse = d.t == t ? purse.subtract(d.pays) : purse;
        }
        return came == NONE ? purse : purse.add(u().multiply(bought(t, came)));
    }

    private BigInteger least(int t, int set, int x) {
        BigInteger least = null;
        for (int c = 0; c < n; c++) {
            BigInteger h = holds(t, c).add(big(has(set, c) ? x : 0));
            least = least == null ? h : least.min(h);
        }
        return least;
    }

    private int why(int t, int set, int x) {
        BigInteger[] sold = sold(set, x);
        for (int c = 0; c < n; c++) {
            BigInteger price = priceOf(sold, c);
            if (price.signum() < 0 || price.compareTo(u()) > 0) {
                return 1;
            }
        }
        BigInteger left = purse(t).subtract(pays(set, x)).add(u().multiply(least(t, set, x)));
        return left.signum() < 0 ? 2 : 0;
    }

    private static int weightSum(int[] weights) {
        int sum = 0;
        for (int w : weights) {
            sum += w;
        }
        return sum;
    }

    private BigInteger worthOf(int t, int set, int x) {
        int[] belief = traders.get(t).belief;
        int in = 0;
        for (int c = 0; c < n; c++) {
            in += has(set, c) ? belief[c] : 0;
        }
        return big((long) in * x).multiply(u())
            .subtract(big(weightSum(belief)).multiply(pays(set, x)));
    }

    private BigInteger gain() {
        BigInteger gain = BigInteger.ZERO;
        for (int t = 0; t < traders.size(); t++) {
            gain = gain.add(big(traders.get(t).given)).subtract(purse(t));
        }
        return gain;
    }

    private BigInteger worst() {
        BigInteger worst = null;
        for (int c = 0; c < n; c++) {
            BigInteger then = gain();
            for (int t = 0; t < traders.size(); t++) {
                then = then.subtract(u().multiply(holds(t, c)));
            }
            worst = worst == null ? then : worst.min(then);
        }
        return worst;
    }

    int begin(int cases, int width) {
        if (cases < 2 || cases > 8 || width < 1 || width > 1000) {
            return OUTSIDE;
        }
        anew(cases, width);
        return 1;
    }

    int trader(int kind, long purse) {
        if (kind < 0 || kind > 2 || purse < 0 || purse > 1_000_000_000_000L) {
            return OUTSIDE;
        }
        if (traders.size() == 6) {
            return FULL;
        }
        int t = traders.size();
        traders.add(kind == 0 ? new P(this, t, purse) : kind == 1 ? new W(this, t, purse) : new S(this, t, purse));
        return t;
    }

    long price(int set) {
        if (noSet(set)) {
            return LOST;
        }
        BigInteger all = BigInteger.ZERO;
        for (int c = 0; c < n; c++) {
            all = has(set, c) ? all.add(priceOf(sold(0, 0), c)) : all;
        }
        return all.longValueExact();
    }

    long quote(int t, int set, int x) {
        return noTrader(t) || noSet(set) || noShares(x) ? LOST : pays(set, x).longValueExact();
    }

    int barred(int t, int set, int x) {
        if (noTrader(t)) {
            return UNKNOWN;
        }
        if (noSet(set) || noShares(x)) {
            return OUTSIDE;
        }
        return came != NONE ? STATE : why(t, set, x);
    }

    int deal(int t, int set, int x) {
        int why = barred(t, set, x);
        if (why != 0) {
            return why < 0 ? why : -20 - why;
        }
        bargains.add(new Bargain(t, set, x, pays(set, x)));
        return dealsOf(t);
    }

    int comes(int c) {
        if (noCase(c)) {
            return UNKNOWN;
        }
        if (came != NONE) {
            return STATE;
        }
        came = c;
        return 1;
    }

    long about(int c, int what) {
        if (noCase(c) || what < 0 || what > 2) {
            return LOST;
        }
        if (what == 2) {
            long holders = 0;
            for (int t = 0; t < traders.size(); t++) {
                holders += holds(t, c).signum() > 0 ? 1 : 0;
            }
            return holders;
        }
        return (what == 0 ? sold(0, 0)[c] : priceOf(sold(0, 0), c)).longValueExact();
    }

    long maker(int what) {
        return switch (what) {
            case 0 -> levelOf(sold(0, 0)).longValueExact();
            case 1 -> gain().longValueExact();
            case 2 -> worst().longValueExact();
            case 3 -> u().longValueExact();
            case 4 -> came;
            default -> LOST;
        };
    }

    long of(int t, int what) {
        if (noTrader(t)) {
            return LOST;
        }
        P p = traders.get(t);
        for (int c = 0; c < n; c++) {
            if (what == 10 + c) {
                return holds(t, c).longValueExact();
            }
            if (what == 20 + c) {
                return p.belief[c];
            }
        }
        return switch (what) {
            case 0 -> purse(t).longValueExact();
            case 1 -> least(t, 0, 0).longValueExact();
            case 2 -> dealsOf(t);
            case 3 -> p.kind();
            case 4 -> weightSum(p.belief);
            default -> LOST;
        };
    }

    int believe(int t, int c, int v) {
        if (noTrader(t) || noCase(c)) {
            return UNKNOWN;
        }
        if (v < 0 || v > 100) {
            return OUTSIDE;
        }
        int[] belief = traders.get(t).belief.clone();
        int was = belief[c];
        belief[c] = v;
        if (weightSum(belief) == 0) {
            return STATE;
        }
        traders.get(t).belief = belief;
        return was;
    }

    /** The cells, by a cast and by indices that this machine itself looks at. */
    private int[] cells(Object row, int lane, int i, int count) {
        int[] cells = new int[count];
        byte[] bytes = lane == 0 ? (byte[]) row : null;
        short[] shorts = lane == 1 ? (short[]) row : null;
        int[] ints = lane == 2 ? (int[]) row : null;
        for (int k = 0; k < count; k++) {
            cells[k] = lane == 0 ? bytes[i + k] : lane == 1 ? shorts[i + k] : ints[i + k];
        }
        return cells;
    }

    private int faultOf(RuntimeException e) {
        fault = e instanceof NullPointerException ? 1
            : e instanceof ClassCastException ? 2
            : e instanceof ArrayIndexOutOfBoundsException ? 3
            : e instanceof NegativeArraySizeException ? 4 : 99;
        return -10 - fault;
    }

    private boolean noWeights(int[] weights) {
        for (int w : weights) {
            if (w < 0 || w > 100) {
                return true;
            }
        }
        return weightSum(weights) == 0;
    }

    int beliefs(int t, int sheet, int lane, int i) {
        fault = 0;
        if (noTrader(t) || sheet < 0 || sheet > 3) {
            return UNKNOWN;
        }
        if (lane < 0 || lane > 2) {
            return OUTSIDE;
        }
        int[] weights;
        try {
            weights = cells(sheets[sheet], lane, i, n);
        } catch (RuntimeException e) {
            return faultOf(e);
        }
        if (noWeights(weights)) {
            return OUTSIDE;
        }
        traders.get(t).belief = weights;
        return weightSum(weights);
    }

    long worth(int t, int set, int x) {
        return noTrader(t) || noSet(set) || noShares(x) ? LOST : worthOf(t, set, x).longValueExact();
    }

    long best(int t, int set) {
        if (noTrader(t) || noSet(set) || came != NONE) {
            return LOST;
        }
        List<Integer> open = new ArrayList<>();
        for (int x = -50; x <= 50; x++) {
            if (x == 0 || why(t, set, x) == 0) {
                open.add(x);
            }
        }
        Comparator<Integer> order = Comparator.comparing((Integer x) -> worthOf(t, set, x).negate());
        return open.stream().min(order.thenComparing(x -> Math.abs(x)).thenComparing(x -> -x)).get();
    }

    int offer(int set, int at, int m) {
        if (noSet(set) || at < 1 || at > 99 || m < 1 || m > 3) {
            return OUTSIDE;
        }
        if (offers.size() == 6) {
            return FULL;
        }
        offers.add(new int[] {set, at, m});
        return offers.size() - 1;
    }

    int most(int f, int m) {
        if (f < 0 || f >= offers.size()) {
            return UNKNOWN;
        }
        if (m < 0 || m > 3) {
            return OUTSIDE;
        }
        int was = offers.get(f)[2];
        offers.get(f)[2] = m;
        return was;
    }

    private int sureOf(int[] row) {
        int least = Integer.MAX_VALUE;
        for (int c = 0; c < n; c++) {
            int back = 0;
            for (int f = 0; f < row.length; f++) {
                back += has(offers.get(f)[0], c) ? 100 * row[f] : 0;
                back -= offers.get(f)[1] * row[f];
            }
            least = Math.min(least, back);
        }
        return least;
    }

    private int[] bestRow(int[] row, int f) {
        if (f == row.length) {
            return row.clone();
        }
        int[] best = null;
        for (int m = 0; m <= offers.get(f)[2]; m++) {
            row[f] = m;
            int[] next = bestRow(row, f + 1);
            best = best == null || sureOf(next) > sureOf(best) ? next : best;
        }
        row[f] = 0;
        return best;
    }

    int sure() {
        return sureOf(bestRow(new int[offers.size()], 0));
    }

    int bundle(int f) {
        return f < 0 || f >= offers.size() ? UNKNOWN : bestRow(new int[offers.size()], 0)[f];
    }

    int forecast(int sheet, int lane, int i, int c) {
        fault = 0;
        if (sheet < 0 || sheet > 3 || noCase(c)) {
            return UNKNOWN;
        }
        if (lane < 0 || lane > 2) {
            return OUTSIDE;
        }
        int[] weights;
        try {
            weights = cells(sheets[sheet], lane, i, n);
        } catch (RuntimeException e) {
            return faultOf(e);
        }
        if (noWeights(weights)) {
            return OUTSIDE;
        }
        if (forecasts.size() == 40) {
            return FULL;
        }
        forecasts.add(new Told(weights, c));
        return forecasts.size() - 1;
    }

    private static Ratio scoreOf(int[] weights, int c) {
        BigInteger v = big(weightSum(weights));
        BigInteger upper = big(2).multiply(v).multiply(big(weights[c]));
        for (int w : weights) {
            upper = upper.subtract(big(w).pow(2));
        }
        return new Ratio(upper, v.pow(2));
    }

    private boolean noForecast(int f, int which) {
        return f < 0 || f >= forecasts.size() || which < 0 || which > 1;
    }

    long score(int f, int which) {
        if (noForecast(f, which)) {
            return LOST;
        }
        return scoreOf(forecasts.get(f).weights, forecasts.get(f).came).part(which);
    }

    long honest(int t, int f, int which) {
        if (noTrader(t) || noForecast(f, which)) {
            return LOST;
        }
        Ratio all = new Ratio(BigInteger.ZERO, BigInteger.ONE);
        BigInteger w = big(weightSum(traders.get(t).belief));
        for (int c = 0; c < n; c++) {
            Ratio s = scoreOf(forecasts.get(f).weights, c);
            BigInteger upper = s.upper.multiply(big(traders.get(t).belief[c]));
            BigInteger lower = s.lower.multiply(w);
            all = new Ratio(all.upper.multiply(lower).add(upper.multiply(all.lower)), all.lower.multiply(lower));
        }
        return all.part(which);
    }

    long held(int c, int t, int what) {
        if (noCase(c) || t < 0 || t > 10 || what < 0 || what > 2) {
            return LOST;
        }
        int count = 0;
        int hits = 0;
        for (Told f : forecasts) {
            if (10 * f.weights[c] == t * weightSum(f.weights)) {
                count++;
                hits += f.came == c ? 1 : 0;
            }
        }
        if (what < 2) {
            return what == 0 ? count : hits;
        }
        return count > 15 ? LOST : tail(count, hits, t).longValueExact();
    }

    /** One forecast after the other: how many of 10^n ways end at each count. */
    private static BigInteger tail(int count, int hits, int t) {
        BigInteger[] ways = new BigInteger[count + 1];
        java.util.Arrays.fill(ways, BigInteger.ZERO);
        ways[0] = BigInteger.ONE;
        for (int k = 0; k < count; k++) {
            for (int j = k + 1; j >= 0; j--) {
                BigInteger stays = ways[j].multiply(big(10 - t));
                ways[j] = j == 0 ? stays : stays.add(ways[j - 1].multiply(big(t)));
            }
        }
        BigInteger sum = BigInteger.ZERO;
        for (int j = hits; j <= count; j++) {
            sum = sum.add(ways[j]);
        }
        return sum;
    }

    int sheet(int k, int lane, int length) {
        fault = 0;
        if (k < 0 || k > 3) {
            return UNKNOWN;
        }
        if (lane < 0 || lane > 2 || length > 24) {
            return OUTSIDE;
        }
        try {
            sheets[k] = lane == 0 ? new byte[length] : lane == 1 ? new short[length] : new int[length];
            return 1;
        } catch (RuntimeException e) {
            return faultOf(e);
        }
    }

    int lose(int k) {
        if (k < 0 || k > 3) {
            return UNKNOWN;
        }
        int had = sheets[k] == null ? 0 : 1;
        sheets[k] = null;
        return had;
    }

    int put(int k, int i, int v) {
        fault = 0;
        if (k < 0 || k > 3) {
            return UNKNOWN;
        }
        try {
            if (sheets[k] instanceof byte[] bytes) {
                bytes[i] = (byte) v;
            } else if (sheets[k] instanceof short[] shorts) {
                shorts[i] = (short) v;
            } else {
                ((int[]) sheets[k])[i] = v;
            }
            return 1;
        } catch (RuntimeException e) {
            return faultOf(e);
        }
    }

    long at(int k, int i, int lane) {
        fault = 0;
        if (k < 0 || k > 3 || lane < 0 || lane > 2) {
            return LOST;
        }
        try {
            return cells(sheets[k], lane, i, 1)[0];
        } catch (RuntimeException e) {
            faultOf(e);
            return LOST;
        }
    }

    int tell(int t) {
        return noTrader(t) ? UNKNOWN : traders.get(t).telling();
    }

    int greet(int t) {
        return noTrader(t) ? UNKNOWN : traders.get(t).greeted();
    }

    int as(int t, int kind) {
        fault = 0;
        if (noTrader(t)) {
            return UNKNOWN;
        }
        if (kind < 0 || kind > 2) {
            return OUTSIDE;
        }
        try {
            P p = traders.get(t);
            P taken = kind == 0 ? p : kind == 1 ? (W) p : (S) p;
            return taken == null ? 0 : 1;
        } catch (RuntimeException e) {
            return faultOf(e);
        }
    }

    int trace() {
        return trace;
    }

    int fault() {
        return fault;
    }

    int told(int what) {
        return switch (what) {
            case 0 -> n;
            case 1 -> b;
            case 2 -> traders.size();
            case 3 -> offers.size();
            case 4 -> forecasts.size();
            case 5 -> bargains.size();
            default -> OUTSIDE;
        };
    }
}

/** Promises 1 to 10, and 33. */
public final class MakerTest {
    private static final Due due = new Due("MakerTest");

    public static void main(String[] args) {
        newObject();
        begin();
        beginKeepsSheetsAndTrace();
        trader();
        price();
        quote();
        barredByPrice();
        barredByPurse();
        barredLeastReasonFirst();
        barredRefusals();
        deal();
        dealPaysWhatTheLevelGrowsBy();
        comes();
        about();
        maker();
        worstIsTheLeast();
        told();
        due.close();
    }

    private static void newObject() {
        BetMaker m = new BetMaker();
        due.is("1 N", m.told(0), 2);
        due.is("1 B", m.told(1), 100);
        for (int what = 2; what <= 5; what++) {
            due.is("1 told " + what, m.told(what), 0);
        }
        due.is("1 sold 0", m.about(0, 0), 0);
        due.is("1 sold 1", m.about(1, 0), 0);
        for (int k = 0; k < 4; k++) {
            due.is("1 sheet " + k + " has nothing", m.lose(k), 0);
        }
        due.is("1 trace", m.trace(), 0);
        due.is("1 fault", m.fault(), 0);
        due.is("1 came", m.maker(4), BetMaker.NONE);
    }

    private static void begin() {
        BetMaker m = new BetMaker();
        int[][] wrong = {{1, 10}, {9, 10}, {0, 10}, {-1, 10}, {3, 0}, {3, 1001}, {3, -5},
            {Integer.MIN_VALUE, 1}, {2, Integer.MAX_VALUE}};
        m.trader(0, 100000);
        m.deal(0, 1, 3);
        for (int[] w : wrong) {
            due.is("2 begin " + w[0] + " " + w[1], m.begin(w[0], w[1]), BetMaker.OUTSIDE);
            due.is("2 nothing changed", m.told(5), 1);
        }
        m.offer(1, 50, 2);
        m.sheet(0, 0, 2);
        m.put(0, 0, 1);
        m.forecast(0, 0, 0, 0);
        m.comes(0);
        due.is("2 edges", m.begin(8, 1000), 1);
        due.is("2 N", m.told(0), 8);
        due.is("2 B", m.told(1), 1000);
        for (int what = 2; what <= 5; what++) {
            due.is("2 anew " + what, m.told(what), 0);
        }
        due.is("2 gain anew", m.maker(1), 0);
        due.is("2 level anew", m.maker(0), 0);
        due.is("2 not come", m.maker(4), BetMaker.NONE);
        due.is("2 no bundle", m.sure(), 0);
        due.is("2 trader is gone", m.of(0, 0), Due.LOST);
        due.is("2 offer is gone", m.bundle(0), BetMaker.UNKNOWN);
        due.is("2 forecast is gone", m.score(0, 0), Due.LOST);
        due.is("2 nothing is held against", m.held(0, 10, 0), 0);
        due.is("2 edges", m.begin(2, 1), 1);
        due.is("2 U", m.maker(3), 8);
        due.is("2 a trader anew", m.trader(0, 5), 0);
        due.is("2 holds nothing", m.of(0, 10), 0);
    }

    private static void beginKeepsSheetsAndTrace() {
        BetMaker m = new BetMaker();
        m.sheet(2, 1, 5);
        m.put(2, 4, 77);
        m.trader(0, 0);
        m.tell(0);
        m.put(2, 5, 1);
        m.begin(3, 7);
        due.is("2 names no fault, so fault() stays", m.fault(), 3);
        due.is("2 sheet is kept", m.at(2, 4, 1), 77);
        due.is("2 trace is kept", m.trace(), 1);
    }

    private static void trader() {
        BetMaker m = new BetMaker();
        due.is("3 kind below", m.trader(-1, 0), BetMaker.OUTSIDE);
        due.is("3 kind above", m.trader(3, 0), BetMaker.OUTSIDE);
        due.is("3 purse below", m.trader(0, -1), BetMaker.OUTSIDE);
        due.is("3 purse above", m.trader(0, 1000000000001L), BetMaker.OUTSIDE);
        due.is("3 purse far above", m.trader(0, Long.MAX_VALUE), BetMaker.OUTSIDE);
        for (int t = 0; t < 6; t++) {
            due.is("3 number", m.trader(t % 3, t == 5 ? 1000000000000L : t), t);
            due.is("3 kind", m.of(t, 3), t % 3);
        }
        due.is("3 greatest purse", m.of(5, 0), 1000000000000L);
        due.is("3 FULL", m.trader(0, 0), BetMaker.FULL);
        due.is("3 OUTSIDE ahead of FULL", m.trader(3, 0), BetMaker.OUTSIDE);
        due.is("3 how many", m.told(2), 6);
    }

    private static void price() {
        BetMaker m = new BetMaker();
        m.begin(3, 10);
        m.trader(0, 100000);
        m.deal(0, 1, 5);
        // 4 B + 2 (N SOLD - S): 40 + 2 (15 - 5) = 60, 40 - 10 = 30, 30.
        due.is("4 price 1", m.price(1), 60);
        due.is("4 price 2", m.price(2), 30);
        due.is("4 price 3", m.price(3), 90);
        due.is("4 price 6", m.price(6), 60);
        due.is("4 price 0", m.price(0), Due.LOST);
        due.is("4 price 7", m.price(7), Due.LOST);
        due.is("4 price 8", m.price(8), Due.LOST);
        due.is("4 price -1", m.price(-1), Due.LOST);
        m.comes(0);
        due.is("4 price after", m.price(5), 90);
    }

    private static void quote() {
        BetMaker m = new BetMaker();
        m.begin(3, 10);
        m.trader(0, 0);
        // LEVEL of (5, 0, 0): 40 * 5 + 3 * 25 - 25 = 250.
        due.is("5 quote", m.quote(0, 1, 5), 250);
        // LEVEL of (-5, 0, 0): -200 + 75 - 25.
        due.is("5 quote back", m.quote(0, 1, -5), -150);
        // LEVEL of (2, 2, 0): 160 + 24 - 16.
        due.is("5 quote of two", m.quote(0, 3, 2), 168);
        // LEVEL of (1000, 0, 0): 40000 + 2000000.
        due.is("5 most", m.quote(0, 1, 1000), 2040000);
        due.is("5 least", m.quote(0, 1, -1000), 1960000);
        due.is("5 x above", m.quote(0, 1, 1001), Due.LOST);
        due.is("5 x below", m.quote(0, 1, -1001), Due.LOST);
        due.is("5 x 0", m.quote(0, 1, 0), Due.LOST);
        due.is("5 no set", m.quote(0, 0, 1), Due.LOST);
        due.is("5 all", m.quote(0, 7, 1), Due.LOST);
        due.is("5 no trader", m.quote(1, 1, 1), Due.LOST);
        due.is("5 no trader", m.quote(-1, 1, 1), Due.LOST);
        m.comes(0);
        due.is("5 quote after", m.quote(0, 1, 5), 250);
    }

    private static void barredByPrice() {
        BetMaker m = new BetMaker();
        m.begin(3, 10);
        m.trader(0, 1000000);
        // Prices of (x, 0, 0): 40 + 4 x, 40 - 2 x; U is 120.
        due.is("6 to U and 0", m.barred(0, 1, 20), 0);
        due.is("6 past U and 0", m.barred(0, 1, 21), 1);
        due.is("6 to 0 below", m.barred(0, 1, -10), 0);
        due.is("6 below 0", m.barred(0, 1, -11), 1);
        due.is("6 two", m.barred(0, 6, -20), 0);
        due.is("6 two, past", m.barred(0, 6, -21), 1);
        due.is("6 two above", m.barred(0, 6, 10), 0);
        due.is("6 two above, past", m.barred(0, 6, 11), 1);
    }

    private static void barredByPurse() {
        BetMaker m = new BetMaker();
        m.begin(3, 10);
        m.trader(0, 250);
        m.trader(0, 249);
        due.is("6 just enough", m.barred(0, 1, 5), 0);
        due.is("6 just too little", m.barred(1, 1, 5), 2);
        // -1 of one: he gets 40 - 2 = 38, and must be able to pay 120.
        m.trader(0, 82);
        m.trader(0, 81);
        due.is("6 what he may owe", m.barred(2, 1, -1), 0);
        due.is("6 cannot owe", m.barred(3, 1, -1), 2);
        due.is("6 sells", m.deal(2, 1, -1), 1);
        due.is("6 no more", m.barred(2, 1, -1), 2);
        // Buying the same of the rest sets him free again: least 0.
        due.is("6 holds -1 of it", m.of(2, 1), -1);
    }

    private static void barredLeastReasonFirst() {
        BetMaker m = new BetMaker();
        m.begin(3, 10);
        m.trader(0, 0);
        due.is("6 both: the least", m.barred(0, 1, 21), 1);
        due.is("6 only purse", m.barred(0, 1, 20), 2);
        due.is("7 both: the least", m.deal(0, 1, 21), -21);
        due.is("7 only purse", m.deal(0, 1, 20), -22);
        due.is("7 nothing done", m.of(0, 2), 0);
    }

    private static void barredRefusals() {
        BetMaker m = new BetMaker();
        m.trader(0, 10000);
        for (int came = 0; came < 2; came++) {
            due.is("6 UNKNOWN first", m.barred(1, 0, 0), BetMaker.UNKNOWN);
            due.is("6 UNKNOWN", m.barred(-1, 1, 1), BetMaker.UNKNOWN);
            due.is("6 OUTSIDE set", m.barred(0, 3, 1), BetMaker.OUTSIDE);
            due.is("6 OUTSIDE x", m.barred(0, 1, 0), BetMaker.OUTSIDE);
            due.is("6 OUTSIDE x", m.barred(0, 1, -1001), BetMaker.OUTSIDE);
            due.is("7 UNKNOWN first", m.deal(1, 0, 0), BetMaker.UNKNOWN);
            due.is("7 OUTSIDE set", m.deal(0, -1, 1), BetMaker.OUTSIDE);
            due.is("7 OUTSIDE x", m.deal(0, 1, 1001), BetMaker.OUTSIDE);
            due.is("6 STATE or not", m.barred(0, 1, 1), came == 0 ? 0 : BetMaker.STATE);
            due.is("6 STATE, not why", m.barred(0, 1, 1000), came == 0 ? 1 : BetMaker.STATE);
            m.comes(1);
        }
        due.is("7 STATE", m.deal(0, 1, 1), BetMaker.STATE);
    }

    private static void deal() {
        BetMaker m = new BetMaker();
        m.begin(3, 10);
        m.trader(0, 10000);
        m.trader(1, 10000);
        due.is("7 first", m.deal(0, 3, 2), 1);
        due.is("7 pays", m.of(0, 0), 10000 - 168);
        due.is("7 holds", m.of(0, 10), 2);
        due.is("7 holds", m.of(0, 11), 2);
        due.is("7 holds", m.of(0, 12), 0);
        due.is("7 sold", m.about(0, 0), 2);
        due.is("7 second", m.deal(0, 4, -1), 2);
        due.is("7 other's first", m.deal(1, 4, 3), 1);
        due.is("7 sold both", m.about(2, 0), 2);
        due.is("7 holds apart", m.of(0, 12), -1);
        due.is("7 holds apart", m.of(1, 12), 3);
        due.is("7 all", m.told(5), 3);
    }

    private static void dealPaysWhatTheLevelGrowsBy() {
        BetMaker m = new BetMaker();
        m.begin(5, 300);
        m.trader(0, 100000000);
        for (int k = 0; k < 40; k++) {
            int set = 1 + k * 7 % 30;
            int x = k * 37 % 91 - 45;
            long level = m.maker(0);
            long purse = m.of(0, 0);
            long quote = m.quote(0, set, x);
            if (m.deal(0, set, x) > 0) {
                due.is("7 level", m.maker(0), level + quote);
                due.is("7 purse", m.of(0, 0), purse - quote);
            } else {
                due.is("7 level kept", m.maker(0), level);
                due.is("7 purse kept", m.of(0, 0), purse);
            }
            due.is("10 gain is the level", m.maker(1), m.maker(0));
            due.is("4 all prices are U", m.price(7) + m.price(24), m.maker(3));
        }
    }

    private static void comes() {
        BetMaker m = new BetMaker();
        m.begin(3, 10);
        m.trader(0, 1000);
        m.trader(0, 1000);
        m.deal(0, 1, 5);
        m.deal(1, 1, -2);
        long first = m.of(0, 0);
        long second = m.of(1, 0);
        long gain = m.maker(1);
        due.is("8 UNKNOWN", m.comes(3), BetMaker.UNKNOWN);
        due.is("8 UNKNOWN", m.comes(-1), BetMaker.UNKNOWN);
        due.is("8 not yet", m.maker(4), BetMaker.NONE);
        due.is("8 comes", m.comes(0), 1);
        due.is("8 gets", m.of(0, 0), first + 5 * 120);
        due.is("8 owes", m.of(1, 0), second - 2 * 120);
        due.is("8 holds nothing", m.of(0, 10), 0);
        due.is("8 holds nothing", m.of(1, 1), 0);
        due.is("8 gain", m.maker(1), gain - 3 * 120);
        due.is("8 sold stays", m.about(0, 0), 3);
        due.is("8 deals stay", m.of(0, 2), 1);
        due.is("8 UNKNOWN ahead of STATE", m.comes(3), BetMaker.UNKNOWN);
        due.is("8 STATE", m.comes(1), BetMaker.STATE);
        due.is("8 STATE", m.comes(0), BetMaker.STATE);
        due.is("8 once only", m.of(0, 0), first + 600);
    }

    private static void about() {
        BetMaker m = new BetMaker();
        m.begin(3, 10);
        for (int t = 0; t < 3; t++) {
            m.trader(0, 10000);
        }
        m.deal(0, 1, 2);
        m.deal(1, 3, 1);
        m.deal(2, 1, -1);
        due.is("9 sold", m.about(0, 0), 2);
        due.is("9 price", m.about(0, 1), 40 + 2 * (6 - 3));
        due.is("9 holders", m.about(0, 2), 2);
        due.is("9 holders", m.about(1, 2), 1);
        due.is("9 holders", m.about(2, 2), 0);
        due.is("9 UNKNOWN", m.about(3, 0), Due.LOST);
        due.is("9 UNKNOWN", m.about(-1, 0), Due.LOST);
        due.is("9 OUTSIDE", m.about(0, 3), Due.LOST);
        due.is("9 OUTSIDE", m.about(0, -1), Due.LOST);
        m.comes(0);
        due.is("9 none holds", m.about(0, 2), 0);
    }

    private static void maker() {
        BetMaker m = new BetMaker();
        m.begin(3, 10);
        m.trader(0, 10000);
        m.deal(0, 1, 5);
        due.is("10 level", m.maker(0), 250);
        due.is("10 gain", m.maker(1), 250);
        due.is("10 worst", m.maker(2), 250 - 600);
        due.is("10 U", m.maker(3), 120);
        due.is("10 none came", m.maker(4), -9);
        due.is("10 OUTSIDE", m.maker(5), Due.LOST);
        due.is("10 OUTSIDE", m.maker(-1), Due.LOST);
        m.comes(2);
        due.is("10 level stays", m.maker(0), 250);
        due.is("10 gain", m.maker(1), 250);
        due.is("10 worst is gain", m.maker(2), 250);
        due.is("10 came", m.maker(4), 2);
    }

    private static void worstIsTheLeast() {
        BetMaker m = new BetMaker();
        m.begin(3, 10);
        m.trader(0, 10000);
        m.deal(0, 3, -3);
        m.deal(0, 4, -1);
        // All SOLD below 0: (-3, -3, -1): the least gain is with CASE 2.
        due.is("10 worst of those below 0", m.maker(2), m.maker(1) + 120);
        for (int c = 0; c < 3; c++) {
            m.begin(3, 10);
            m.trader(0, 10000);
            m.deal(0, 1 << c, 2);
            due.is("10 worst is with CASE " + c, m.maker(2), m.maker(1) - 240);
        }
    }

    private static void told() {
        BetMaker m = new BetMaker();
        m.begin(4, 20);
        m.trader(0, 10000);
        m.trader(1, 10000);
        m.offer(1, 10, 1);
        m.offer(2, 10, 1);
        m.offer(2, 10, 1);
        m.sheet(0, 0, 4);
        m.put(0, 0, 1);
        m.forecast(0, 0, 0, 0);
        m.deal(0, 1, 1);
        m.deal(1, 1, 1);
        m.deal(1, 1, -1);
        m.deal(1, 1, 900);
        long[] want = {4, 20, 2, 3, 1, 3};
        for (int what = 0; what < 6; what++) {
            due.is("33 told " + what, m.told(what), want[what]);
        }
        due.is("33 OUTSIDE", m.told(6), BetMaker.OUTSIDE);
        due.is("33 OUTSIDE", m.told(-1), BetMaker.OUTSIDE);
    }
}

/** Promises 24 to 32. */
public final class SheetsTest {
    private static final Due due = new Due("SheetsTest");

    public static void main(String[] args) {
        sheet();
        lose();
        put();
        at();
        tell();
        greet();
        as();
        trace();
        fault();
        due.close();
    }

    private static void sheet() {
        BetMaker m = new BetMaker();
        for (int k = 0; k < 4; k++) {
            due.is("24 new", m.sheet(k, k % 3, 24), 1);
        }
        due.is("24 UNKNOWN", m.sheet(4, 9, -1), BetMaker.UNKNOWN);
        due.is("24 UNKNOWN", m.sheet(-1, 0, 1), BetMaker.UNKNOWN);
        due.is("24 lane", m.sheet(0, 3, -1), BetMaker.OUTSIDE);
        due.is("24 lane", m.sheet(0, -1, 1), BetMaker.OUTSIDE);
        due.is("24 n above", m.sheet(0, 0, 25), BetMaker.OUTSIDE);
        due.is("24 no fault", m.fault(), 0);
        due.is("24 SIZE", m.sheet(0, 0, -1), -14);
        due.is("24 fault", m.fault(), 4);
        due.is("24 SIZE", m.sheet(0, 0, Integer.MIN_VALUE), -14);
        m.put(0, 3, 5);
        due.is("24 kept", m.sheet(0, 0, -1), -14);
        due.is("24 kept", m.at(0, 3, 0), 5);
        due.is("24 anew", m.sheet(0, 2, 4), 1);
        due.is("24 0 at first", m.at(0, 3, 2), 0);
        due.is("24 shorter", m.put(0, 4, 0), -13);
        due.is("24 empty row", m.sheet(0, 0, 0), 1);
        due.is("24 no cell", m.put(0, 0, 0), -13);
        due.is("24 there all the same", m.lose(0), 1);
    }

    private static void lose() {
        BetMaker m = new BetMaker();
        m.sheet(1, 0, 3);
        m.put(1, 3, 0);
        due.is("25 had", m.lose(1), 1);
        due.is("25 had nothing", m.lose(1), 0);
        due.is("25 UNKNOWN", m.lose(4), BetMaker.UNKNOWN);
        due.is("25 UNKNOWN", m.lose(-1), BetMaker.UNKNOWN);
        due.is("25 names no fault", m.fault(), 3);
        due.is("25 nothing there", m.put(1, 0, 1), -11);
    }

    private static void put() {
        BetMaker m = new BetMaker();
        due.is("26 NULL ahead of INDEX", m.put(0, 99, 1), -11);
        due.is("26 fault", m.fault(), 1);
        m.sheet(0, 0, 2);
        due.is("26 put", m.put(0, 1, 300), 1);
        due.is("26 fault", m.fault(), 0);
        due.is("26 cut to a byte", m.at(0, 1, 0), 44);
        due.is("26 other cell", m.at(0, 0, 0), 0);
        m.put(0, 0, 128);
        due.is("26 cut to a byte", m.at(0, 0, 0), -128);
        due.is("26 INDEX", m.put(0, 2, 1), -13);
        due.is("26 INDEX", m.put(0, -1, 1), -13);
        due.is("26 fault", m.fault(), 3);
        due.is("26 UNKNOWN", m.put(4, 0, 1), BetMaker.UNKNOWN);
        due.is("26 fault", m.fault(), 0);
        m.sheet(1, 1, 1);
        m.put(1, 0, 40000);
        due.is("26 cut to a short", m.at(1, 0, 1), 40000 - 65536);
        m.sheet(2, 2, 1);
        m.put(2, 0, Integer.MIN_VALUE);
        due.is("26 an int", m.at(2, 0, 2), Integer.MIN_VALUE);
    }

    private static void at() {
        BetMaker m = new BetMaker();
        m.sheet(0, 1, 24);
        m.put(0, 23, -7);
        due.is("27 at", m.at(0, 23, 1), -7);
        due.is("27 no fault", m.fault(), 0);
        due.is("27 CAST ahead of INDEX", m.at(0, 24, 0), Due.LOST);
        due.is("27 fault", m.fault(), 2);
        due.is("27 INDEX", m.at(0, 24, 1), Due.LOST);
        due.is("27 fault", m.fault(), 3);
        due.is("27 lane", m.at(0, 24, 3), Due.LOST);
        due.is("27 fault", m.fault(), 0);
        due.is("27 INDEX", m.at(0, Integer.MIN_VALUE, 1), Due.LOST);
        due.is("27 fault", m.fault(), 3);
        due.is("27 UNKNOWN", m.at(-1, 0, 0), Due.LOST);
        due.is("27 fault", m.fault(), 0);
        due.is("27 nothing is no CAST", m.at(1, 9, 2), Due.LOST);
        due.is("27 fault", m.fault(), 1);
        m.lose(0);
        due.is("27 what was lost is no CAST", m.at(0, 0, 2), Due.LOST);
        due.is("27 fault", m.fault(), 1);
    }

    private static BetMaker oneOfEachKind() {
        BetMaker m = new BetMaker();
        for (int kind = 0; kind < 3; kind++) {
            m.trader(kind, 100000);
            for (int k = 0; k < 3; k++) {
                m.deal(kind, 1, 1);
            }
        }
        return m;
    }

    private static int traceOf(int... bodies) {
        int trace = 0;
        for (int body : bodies) {
            trace = 31 * trace + body;
        }
        return trace;
    }

    private static void tell() {
        BetMaker m = oneOfEachKind();
        due.is("28 PLAIN", m.tell(0), 3);
        due.is("31 PLAIN", m.trace(), traceOf(1));
        m = oneOfEachKind();
        due.is("28 WARY", m.tell(1), 103);
        due.is("31 WARY", m.trace(), traceOf(2, 1));
        m = oneOfEachKind();
        due.is("28 SURE", m.tell(2), 106);
        due.is("31 SURE", m.trace(), traceOf(3, 2, 1, 1));
        due.is("28 UNKNOWN", m.tell(3), BetMaker.UNKNOWN);
        due.is("28 UNKNOWN", m.tell(-1), BetMaker.UNKNOWN);
        due.is("31 unchanged", m.trace(), traceOf(3, 2, 1, 1));
    }

    private static void greet() {
        BetMaker m = oneOfEachKind();
        due.is("29 PLAIN", m.greet(0), 0);
        due.is("29 WARY", m.greet(1), 1);
        due.is("29 SURE", m.greet(2), 90);
        due.is("31 bodies", m.trace(), traceOf(4, 4, 5));
        due.is("29 UNKNOWN", m.greet(3), BetMaker.UNKNOWN);
        due.is("29 UNKNOWN", m.greet(-1), BetMaker.UNKNOWN);
        due.is("31 bodies", m.trace(), traceOf(4, 4, 5));
    }

    private static void as() {
        BetMaker m = oneOfEachKind();
        for (int t = 0; t < 3; t++) {
            for (int kind = 0; kind < 3; kind++) {
                due.is("30 as", m.as(t, kind), kind <= t ? 1 : -12);
                due.is("30 fault", m.fault(), kind <= t ? 0 : 2);
            }
        }
        m.as(0, 2);
        due.is("30 OUTSIDE", m.as(0, 3), BetMaker.OUTSIDE);
        due.is("30 fault", m.fault(), 0);
        due.is("30 OUTSIDE", m.as(0, -1), BetMaker.OUTSIDE);
        m.as(0, 2);
        due.is("30 UNKNOWN", m.as(3, 3), BetMaker.UNKNOWN);
        due.is("30 fault", m.fault(), 0);
        due.is("30 leaves no trace", m.trace(), 0);
    }

    private static void trace() {
        BetMaker m = oneOfEachKind();
        int trace = 0;
        for (int k = 0; k < 20; k++) {
            m.greet(2);
            trace = 31 * trace + 5;
        }
        due.is("31 wraps", m.trace(), trace);
        due.is("31 again", m.trace(), trace);
    }

    private static void fault() {
        BetMaker m = new BetMaker();
        due.is("32 ahead of any", m.fault(), 0);
        m.trader(0, 100000);
        m.put(0, 0, 0);
        // Calls that name none leave it, refused or not.
        m.trader(9, 0);
        m.price(0);
        m.quote(0, 1, 1);
        m.barred(9, 9, 9);
        m.deal(0, 1, 1);
        m.about(0, 0);
        m.maker(0);
        m.of(0, 0);
        m.believe(0, 0, 5);
        m.worth(0, 1, 1);
        m.best(0, 1);
        m.offer(1, 1, 1);
        m.most(0, 2);
        m.sure();
        m.bundle(0);
        m.score(0, 0);
        m.honest(0, 0, 0);
        m.held(0, 0, 0);
        m.lose(0);
        m.tell(0);
        m.greet(0);
        m.trace();
        m.told(0);
        m.comes(0);
        due.is("32 stays", m.fault(), 1);
        due.is("32 stays", m.fault(), 1);
        m.begin(9, 9);
        due.is("32 stays over a refused begin()", m.fault(), 1);
        m.begin(2, 1);
        due.is("32 stays over begin()", m.fault(), 1);
        m.trader(0, 100000);
        m.sheet(0, 0, 3);
        due.is("32 none", m.fault(), 0);
        m.put(0, 9, 9);
        due.is("32 INDEX", m.fault(), 3);
        m.put(0, 0, 9);
        due.is("32 none", m.fault(), 0);
        m.as(0, 1);
        due.is("32 CAST", m.fault(), 2);
        m.at(0, 0, 0);
        due.is("32 none", m.fault(), 0);
        m.sheet(0, 0, -5);
        due.is("32 SIZE", m.fault(), 4);
        m.beliefs(0, 0, 0, 0);
        due.is("32 none", m.fault(), 0);
        m.sheet(0, 0, -5);
        m.forecast(0, 0, 0, 0);
        due.is("32 none", m.fault(), 0);
        m.sheet(0, 0, -5);
        m.begin(2, 1);
        m.as(0, 0);
        due.is("32 none: begin() took the trader, so as() is refused", m.fault(), 0);
    }
}

/** What the document's Terms say of REFUSALS and FAULTS, call by call: their order, and that nothing changes. */
public final class RefusalsTest {
    private static final Due due = new Due("RefusalsTest");
    private static final long LOST = BetMaker.LOST;
    private static final int UNKNOWN = BetMaker.UNKNOWN, OUTSIDE = BetMaker.OUTSIDE;
    private static final int STATE = BetMaker.STATE, FULL = BetMaker.FULL;
    private static final int NULL = -11, CAST = -12, INDEX = -13, SIZE = -14;
    /** The fault that stands ahead of each call: one that no refusal can be taken for. */
    private static final int STANDING = 3;

    private interface Call {
        long on(BetMaker m);
    }

    private interface Made {
        BetMaker anew();
    }

    public static void main(String[] args) {
        theFirstThatFits();
        refusedNamingNoFault();
        refusedNamingFaults();
        refusedWhenItCame();
        notRefusedWhenItCame();
        refusedWhenFull();
        lostForAnyRefusal();
        theMachinesFaults();
        faultsInTheOrderTold();
        faultsChangeNothing();
        barredChangesNothing();
        askingChangesNothing();
        numbersFarOutside();
        due.close();
    }

    // ---- what the calls are made on

    private static BetMaker busy() {
        BetMaker m = new BetMaker();
        m.begin(3, 10);
        m.trader(0, 1000);
        m.trader(1, 20000);
        m.trader(2, 0);
        m.deal(0, 1, 3);
        m.deal(1, 6, -2);
        Scene.believe(m, 0, 5, 3, 2);
        Scene.believe(m, 1, 0, 0, 7);
        m.offer(1, 30, 2);
        m.offer(6, 40, 3);
        Scene.fill(m, 0, 0, 5, 3, 2, 0, 0, 0, 101, 1);
        Scene.fill(m, 1, 1, 300, 1, 1);
        m.sheet(2, 2, 0);
        m.forecast(0, 0, 0, 1);
        m.forecast(0, 0, 1, 2);
        m.tell(2);
        m.greet(0);
        m.put(0, 99, 0);
        return m;
    }

    private static BetMaker over() {
        BetMaker m = busy();
        m.comes(1);
        return m;
    }

    private static BetMaker full() {
        BetMaker m = busy();
        for (int k = 0; k < 4; k++) {
            m.trader(0, k);
            m.offer(2, 50, 1);
        }
        for (int k = 0; k < 38; k++) {
            m.forecast(0, 0, 0, 0);
        }
        m.put(0, 99, 0);
        return m;
    }

    /** The answer, what fault() tells then, and that all else is as on an object that was not asked. */
    private static void changesNothing(Made made, String name, Call call, long answer, int fault) {
        BetMaker m = made.anew();
        due.is(name, call.on(m), answer);
        due.is("fault() after " + name, m.fault(), fault);
        due.holds(name + " changes nothing", Seen.of(m).equals(Seen.of(made.anew())));
    }

    private static void refused(String name, long answer, Call call) {
        changesNothing(RefusalsTest::busy, name, call, answer, STANDING);
    }

    private static void refusedNaming(String name, long answer, Call call) {
        changesNothing(RefusalsTest::busy, name, call, answer, 0);
    }

    private static void faulty(String name, long answer, int fault, Call call) {
        changesNothing(RefusalsTest::busy, name, call, answer, fault);
    }

    // ---- refusals

    private static void theFirstThatFits() {
        due.sentence("6, 7, 8, 12, 13, 17, 20, 24, 30",
            "REFUSALS, the first of these that fits: UNKNOWN (there is no such CASE, TRADER, OFFER, SHEET, place), "
            + "OUTSIDE (another number is not as told), STATE (as told), FULL");
        BetMaker m = over();
        due.is("barred: UNKNOWN, OUTSIDE, STATE", m.barred(3, 0, 0), UNKNOWN);
        due.is("barred: UNKNOWN, STATE", m.barred(3, 1, 1), UNKNOWN);
        due.is("barred: OUTSIDE, STATE", m.barred(0, 0, 1), OUTSIDE);
        due.is("barred: STATE", m.barred(0, 1, 1), STATE);
        due.is("deal: UNKNOWN, OUTSIDE, STATE", m.deal(3, 0, 0), UNKNOWN);
        due.is("deal: UNKNOWN, STATE", m.deal(3, 1, 1), UNKNOWN);
        due.is("deal: OUTSIDE, STATE", m.deal(0, 1, 0), OUTSIDE);
        due.is("deal: STATE", m.deal(0, 1, 1), STATE);
        due.is("comes: UNKNOWN, STATE", m.comes(3), UNKNOWN);
        due.is("comes: STATE", m.comes(2), STATE);
        due.is("believe: UNKNOWN, OUTSIDE", m.believe(3, 0, 101), UNKNOWN);
        due.is("believe: UNKNOWN, OUTSIDE", m.believe(0, 3, 101), UNKNOWN);
        due.is("most: UNKNOWN, OUTSIDE", m.most(2, 4), UNKNOWN);
        due.is("as: UNKNOWN, OUTSIDE", m.as(3, 3), UNKNOWN);
        due.is("sheet: UNKNOWN, OUTSIDE", m.sheet(4, 3, 25), UNKNOWN);
        due.is("beliefs: UNKNOWN, OUTSIDE", m.beliefs(3, 0, 3, 0), UNKNOWN);
        m = full();
        due.is("trader: OUTSIDE, FULL", m.trader(3, 0), OUTSIDE);
        due.is("trader: OUTSIDE, FULL", m.trader(0, -1), OUTSIDE);
        due.is("trader: FULL", m.trader(0, 0), FULL);
        due.is("offer: OUTSIDE, FULL", m.offer(1, 0, 1), OUTSIDE);
        due.is("offer: FULL", m.offer(1, 1, 1), FULL);
        due.is("forecast: UNKNOWN, OUTSIDE, FULL", m.forecast(4, 3, 0, 0), UNKNOWN);
        due.is("forecast: UNKNOWN, OUTSIDE, FULL", m.forecast(0, 3, 0, 3), UNKNOWN);
        due.is("forecast: OUTSIDE, FULL", m.forecast(0, 3, 0, 0), OUTSIDE);
        due.is("forecast: FULL", m.forecast(0, 0, 0, 0), FULL);
    }

    private static void refusedNamingNoFault() {
        due.sentence("2, 3, 6, 7, 8, 12, 16, 17, 19, 25, 28, 29, 33",
            "they change nothing (but fault(), of a call that names FAULTS)");
        refused("begin(1, 10)", OUTSIDE, m -> m.begin(1, 10));
        refused("begin(9, 10)", OUTSIDE, m -> m.begin(9, 10));
        refused("begin(3, 0)", OUTSIDE, m -> m.begin(3, 0));
        refused("begin(3, 1001)", OUTSIDE, m -> m.begin(3, 1001));
        refused("trader(3, 5)", OUTSIDE, m -> m.trader(3, 5));
        refused("trader(0, -1)", OUTSIDE, m -> m.trader(0, -1));
        refused("trader(0, 10^12 + 1)", OUTSIDE, m -> m.trader(0, Scene.MOST_PURSE + 1));
        refused("barred(3, 1, 1)", UNKNOWN, m -> m.barred(3, 1, 1));
        refused("barred(0, 7, 1)", OUTSIDE, m -> m.barred(0, 7, 1));
        refused("barred(0, 1, 0)", OUTSIDE, m -> m.barred(0, 1, 0));
        refused("deal(3, 1, 1)", UNKNOWN, m -> m.deal(3, 1, 1));
        refused("deal(-1, 1, 1)", UNKNOWN, m -> m.deal(-1, 1, 1));
        refused("deal(0, 7, 1)", OUTSIDE, m -> m.deal(0, 7, 1));
        refused("deal(0, 0, 1)", OUTSIDE, m -> m.deal(0, 0, 1));
        refused("deal(0, 1, 0)", OUTSIDE, m -> m.deal(0, 1, 0));
        refused("deal(1, 1, 1001)", OUTSIDE, m -> m.deal(1, 1, 1001));
        refused("comes(3)", UNKNOWN, m -> m.comes(3));
        refused("comes(-1)", UNKNOWN, m -> m.comes(-1));
        refused("believe(3, 0, 9)", UNKNOWN, m -> m.believe(3, 0, 9));
        refused("believe(0, 3, 9)", UNKNOWN, m -> m.believe(0, 3, 9));
        refused("believe(0, 0, 101)", OUTSIDE, m -> m.believe(0, 0, 101));
        refused("believe(0, 0, -1)", OUTSIDE, m -> m.believe(0, 0, -1));
        refused("believe(1, 2, 0)", STATE, m -> m.believe(1, 2, 0));
        refused("offer(7, 10, 1)", OUTSIDE, m -> m.offer(7, 10, 1));
        refused("offer(1, 0, 1)", OUTSIDE, m -> m.offer(1, 0, 1));
        refused("offer(1, 100, 1)", OUTSIDE, m -> m.offer(1, 100, 1));
        refused("offer(1, 10, 0)", OUTSIDE, m -> m.offer(1, 10, 0));
        refused("offer(1, 10, 4)", OUTSIDE, m -> m.offer(1, 10, 4));
        refused("most(2, 1)", UNKNOWN, m -> m.most(2, 1));
        refused("most(0, 4)", OUTSIDE, m -> m.most(0, 4));
        refused("most(0, -1)", OUTSIDE, m -> m.most(0, -1));
        refused("bundle(2)", UNKNOWN, m -> m.bundle(2));
        refused("lose(4)", UNKNOWN, m -> m.lose(4));
        refused("lose(-1)", UNKNOWN, m -> m.lose(-1));
        refused("tell(3)", UNKNOWN, m -> m.tell(3));
        refused("greet(3)", UNKNOWN, m -> m.greet(3));
        refused("told(6)", OUTSIDE, m -> m.told(6));
    }

    private static void refusedNamingFaults() {
        due.sentence("13, 20, 24, 26, 27, 30", "(but fault(), of a call that names FAULTS)");
        refusedNaming("beliefs(3, 0, 0, 0)", UNKNOWN, m -> m.beliefs(3, 0, 0, 0));
        refusedNaming("beliefs(0, 4, 0, 0)", UNKNOWN, m -> m.beliefs(0, 4, 0, 0));
        refusedNaming("beliefs(0, 0, 3, 0)", OUTSIDE, m -> m.beliefs(0, 0, 3, 0));
        refusedNaming("beliefs(0, 0, 0, 3)", OUTSIDE, m -> m.beliefs(0, 0, 0, 3));
        refusedNaming("beliefs(0, 0, 0, 4)", OUTSIDE, m -> m.beliefs(0, 0, 0, 4));
        refusedNaming("beliefs(0, 1, 1, 0)", OUTSIDE, m -> m.beliefs(0, 1, 1, 0));
        refusedNaming("forecast(4, 0, 0, 0)", UNKNOWN, m -> m.forecast(4, 0, 0, 0));
        refusedNaming("forecast(0, 0, 0, 3)", UNKNOWN, m -> m.forecast(0, 0, 0, 3));
        refusedNaming("forecast(0, 3, 0, 0)", OUTSIDE, m -> m.forecast(0, 3, 0, 0));
        refusedNaming("forecast(0, 0, 3, 0)", OUTSIDE, m -> m.forecast(0, 0, 3, 0));
        refusedNaming("forecast(0, 0, 5, 0)", OUTSIDE, m -> m.forecast(0, 0, 5, 0));
        refusedNaming("sheet(4, 0, 1)", UNKNOWN, m -> m.sheet(4, 0, 1));
        refusedNaming("sheet(0, 3, 1)", OUTSIDE, m -> m.sheet(0, 3, 1));
        refusedNaming("sheet(0, 1, 25)", OUTSIDE, m -> m.sheet(0, 1, 25));
        refusedNaming("put(4, 0, 1)", UNKNOWN, m -> m.put(4, 0, 1));
        refusedNaming("at(4, 0, 0)", LOST, m -> m.at(4, 0, 0));
        refusedNaming("at(0, 0, 3)", LOST, m -> m.at(0, 0, 3));
        refusedNaming("as(3, 0)", UNKNOWN, m -> m.as(3, 0));
        refusedNaming("as(0, 3)", OUTSIDE, m -> m.as(0, 3));
    }

    private static void refusedWhenItCame() {
        due.sentence("6, 7, 8, 15", "STATE (as told), FULL; they change nothing");
        Made over = RefusalsTest::over;
        changesNothing(over, "barred(0, 1, 1)", m -> m.barred(0, 1, 1), STATE, STANDING);
        changesNothing(over, "deal(0, 1, 1)", m -> m.deal(0, 1, 1), STATE, STANDING);
        changesNothing(over, "comes(1)", m -> m.comes(1), STATE, STANDING);
        changesNothing(over, "comes(0)", m -> m.comes(0), STATE, STANDING);
        changesNothing(over, "best(0, 1)", m -> m.best(0, 1), LOST, STANDING);
    }

    private static void notRefusedWhenItCame() {
        due.sentence("3, 4, 5, 9, 12, 13, 14, 16, 17, 18, 19, 20, 28, 29, 30", "STATE (as told)");
        BetMaker before = busy();
        BetMaker m = over();
        due.is("price(1)", m.price(1), before.price(1));
        due.is("quote(0, 1, 1)", m.quote(0, 1, 1), before.quote(0, 1, 1));
        due.is("about(0, 1)", m.about(0, 1), before.about(0, 1));
        due.is("worth(0, 1, 1)", m.worth(0, 1, 1), before.worth(0, 1, 1));
        due.is("trader(0, 5)", m.trader(0, 5), 3);
        due.is("believe(0, 0, 9)", m.believe(0, 0, 9), 5);
        due.is("beliefs(1, 0, 0, 0)", m.beliefs(1, 0, 0, 0), 10);
        due.is("offer(1, 1, 1)", m.offer(1, 1, 1), 2);
        due.is("most(2, 3)", m.most(2, 3), 1);
        due.is("sure()", m.sure(), 300 - 3 * 41);
        due.is("bundle(2)", m.bundle(2), 3);
        due.is("forecast(0, 0, 0, 0)", m.forecast(0, 0, 0, 0), 2);
        due.is("tell(1)", m.tell(1), 101);
        due.is("greet(1)", m.greet(1), 1);
        due.is("as(1, 1)", m.as(1, 1), 1);
    }

    private static void refusedWhenFull() {
        due.sentence("3, 16, 20", "FULL; they change nothing (but fault(), of a call that names FAULTS)");
        Made full = RefusalsTest::full;
        changesNothing(full, "trader(0, 5)", m -> m.trader(0, 5), FULL, STANDING);
        changesNothing(full, "offer(1, 1, 1)", m -> m.offer(1, 1, 1), FULL, STANDING);
        changesNothing(full, "forecast(0, 0, 0, 0)", m -> m.forecast(0, 0, 0, 0), FULL, 0);
    }

    private static void lostForAnyRefusal() {
        due.sentence("4, 5, 9, 10, 11, 14, 15, 21, 22, 23",
            "it answers -10 less it (LOST, where a long is answered, as for refusals)");
        refused("price(7)", LOST, m -> m.price(7));
        refused("quote(3, 1, 1)", LOST, m -> m.quote(3, 1, 1));
        refused("quote(0, 7, 1)", LOST, m -> m.quote(0, 7, 1));
        refused("quote(0, 1, 0)", LOST, m -> m.quote(0, 1, 0));
        refused("about(3, 0)", LOST, m -> m.about(3, 0));
        refused("about(0, 3)", LOST, m -> m.about(0, 3));
        refused("maker(5)", LOST, m -> m.maker(5));
        refused("of(3, 0)", LOST, m -> m.of(3, 0));
        refused("of(0, 5)", LOST, m -> m.of(0, 5));
        refused("of(0, 13)", LOST, m -> m.of(0, 13));
        refused("worth(3, 1, 1)", LOST, m -> m.worth(3, 1, 1));
        refused("worth(0, 1, 1001)", LOST, m -> m.worth(0, 1, 1001));
        refused("best(3, 1)", LOST, m -> m.best(3, 1));
        refused("best(0, 7)", LOST, m -> m.best(0, 7));
        refused("score(2, 0)", LOST, m -> m.score(2, 0));
        refused("score(0, 2)", LOST, m -> m.score(0, 2));
        refused("honest(3, 0, 0)", LOST, m -> m.honest(3, 0, 0));
        refused("honest(0, 2, 0)", LOST, m -> m.honest(0, 2, 0));
        refused("honest(0, 0, 2)", LOST, m -> m.honest(0, 0, 2));
        refused("held(3, 0, 0)", LOST, m -> m.held(3, 0, 0));
        refused("held(0, 11, 0)", LOST, m -> m.held(0, 11, 0));
        refused("held(0, 0, 3)", LOST, m -> m.held(0, 0, 3));
    }

    // ---- faults

    private static void theMachinesFaults() {
        due.sentence("13, 20, 24, 26, 27, 30", "FAULTS are the machine's: 1 NULL (there is nothing), "
            + "2 CAST (it is of another LANE, kind), 3 INDEX, 4 SIZE (a length below 0).");
        BetMaker m = busy();
        due.is("put: NULL", m.put(3, 0, 0), -10 - 1);
        due.is("as: CAST, of another kind", m.as(0, 1), -10 - 2);
        due.is("beliefs: CAST, of another LANE", m.beliefs(0, 0, 1, 0), -10 - 2);
        due.is("put: INDEX", m.put(0, 8, 0), -10 - 3);
        due.is("put: INDEX of an empty row, not NULL", m.put(2, 0, 0), -10 - 3);
        due.is("sheet: SIZE", m.sheet(0, 0, -1), -10 - 4);
    }

    private static void faultsInTheOrderTold() {
        due.sentence("13, 20, 24, 26, 27", "Of a call the first that is come to, in the order told");
        faulty("beliefs: CAST, INDEX, a weight", CAST, 2, m -> m.beliefs(0, 0, 1, 7));
        faulty("beliefs: NULL, INDEX", NULL, 1, m -> m.beliefs(0, 3, 1, 99));
        faulty("beliefs: INDEX, a weight", INDEX, 3, m -> m.beliefs(0, 0, 0, 6));
        faulty("forecast: CAST, INDEX, a weight", CAST, 2, m -> m.forecast(0, 2, 7, 0));
        faulty("forecast: NULL, INDEX", NULL, 1, m -> m.forecast(3, 2, 99, 0));
        faulty("forecast: INDEX, a weight", INDEX, 3, m -> m.forecast(0, 0, 6, 0));
        faulty("put: NULL, INDEX", NULL, 1, m -> m.put(3, 99, 0));
        faulty("at: CAST, INDEX", LOST, 2, m -> m.at(0, 99, 1));
        faulty("at: NULL, INDEX", LOST, 1, m -> m.at(3, 99, 1));
        faulty("sheet: OUTSIDE, SIZE", OUTSIDE, 0, m -> m.sheet(0, 3, -1));
        faulty("sheet: UNKNOWN, SIZE", UNKNOWN, 0, m -> m.sheet(4, 0, -1));
    }

    private static void faultsChangeNothing() {
        due.sentence("13, 20, 24, 26, 27, 30", "it answers -10 less it (LOST, where a long is answered, "
            + "as for refusals) and changes nothing; fault() tells it.");
        faulty("beliefs(0, 3, 0, 0)", NULL, 1, m -> m.beliefs(0, 3, 0, 0));
        faulty("beliefs(0, 0, 1, 0)", CAST, 2, m -> m.beliefs(0, 0, 1, 0));
        faulty("beliefs(2, 0, 0, -1)", INDEX, 3, m -> m.beliefs(2, 0, 0, -1));
        faulty("forecast(3, 0, 0, 0)", NULL, 1, m -> m.forecast(3, 0, 0, 0));
        faulty("forecast(1, 0, 0, 0)", CAST, 2, m -> m.forecast(1, 0, 0, 0));
        faulty("forecast(2, 2, 0, 0)", INDEX, 3, m -> m.forecast(2, 2, 0, 0));
        faulty("sheet(0, 1, -1)", SIZE, 4, m -> m.sheet(0, 1, -1));
        faulty("sheet(3, 1, -1)", SIZE, 4, m -> m.sheet(3, 1, -1));
        faulty("put(3, 0, 5)", NULL, 1, m -> m.put(3, 0, 5));
        faulty("put(0, 8, 5)", INDEX, 3, m -> m.put(0, 8, 5));
        faulty("put(0, -1, 5)", INDEX, 3, m -> m.put(0, -1, 5));
        faulty("at(3, 0, 0)", LOST, 1, m -> m.at(3, 0, 0));
        faulty("at(1, 0, 0)", LOST, 2, m -> m.at(1, 0, 0));
        faulty("at(1, 3, 1)", LOST, 3, m -> m.at(1, 3, 1));
        faulty("as(1, 2)", CAST, 2, m -> m.as(1, 2));
    }

    // ---- what else changes nothing

    private static void barredChangesNothing() {
        due.sentence("7", "-20 less why it is BARRED.");
        refused("deal(1, 1, 1000)", -21, m -> m.deal(1, 1, 1000));
        refused("deal(2, 1, 1)", -22, m -> m.deal(2, 1, 1));
    }

    private static void askingChangesNothing() {
        due.sentence("5, 6, 15", "Why a DEAL is BARRED: 1, 2; 0: it is not.");
        refused("barred(1, 1, 1)", 0, m -> m.barred(1, 1, 1));
        refused("barred(1, 1, 1000)", 1, m -> m.barred(1, 1, 1000));
        refused("barred(2, 1, 1)", 2, m -> m.barred(2, 1, 1));
        refused("told(5)", 2, m -> m.told(5));
        refused("best(2, 1)", 0, m -> m.best(2, 1));
        refused("maker(4)", BetMaker.NONE, m -> m.maker(4));
        refusedNaming("as(2, 1)", 1, m -> m.as(2, 1));
        refusedNaming("at(1, 0, 1)", 300, m -> m.at(1, 0, 1));
    }

    /** No number, however far outside, may stop the program. */
    private static void numbersFarOutside() {
        due.sentence("2, 3, 8, 17, 19, 24, 25, 26, 28, 29, 30, 33", "OUTSIDE (another number is not as told)");
        for (int far : new int[] {Scene.LEAST, Scene.LEAST + 1, Scene.GREATEST - 1, Scene.GREATEST}) {
            refused("begin", OUTSIDE, m -> m.begin(far, far));
            refused("trader", OUTSIDE, m -> m.trader(far, far));
            refused("barred", UNKNOWN, m -> m.barred(far, far, far));
            refused("deal", UNKNOWN, m -> m.deal(far, far, far));
            refused("deal", OUTSIDE, m -> m.deal(0, far, far));
            refused("comes", UNKNOWN, m -> m.comes(far));
            refused("believe", UNKNOWN, m -> m.believe(far, far, far));
            refused("offer", OUTSIDE, m -> m.offer(far, far, far));
            refused("most", UNKNOWN, m -> m.most(far, far));
            refused("bundle", UNKNOWN, m -> m.bundle(far));
            refused("lose", UNKNOWN, m -> m.lose(far));
            refused("tell", UNKNOWN, m -> m.tell(far));
            refused("greet", UNKNOWN, m -> m.greet(far));
            refused("told", OUTSIDE, m -> m.told(far));
            refusedNaming("beliefs", UNKNOWN, m -> m.beliefs(far, far, far, far));
            refusedNaming("forecast", UNKNOWN, m -> m.forecast(far, far, far, far));
            refusedNaming("sheet", UNKNOWN, m -> m.sheet(far, far, far));
            refusedNaming("put", UNKNOWN, m -> m.put(far, far, far));
            refusedNaming("as", UNKNOWN, m -> m.as(far, far));
            faulty("put", INDEX, 3, m -> m.put(0, far, far));
            faulty("beliefs", INDEX, 3, m -> m.beliefs(0, 0, 0, far));
            faulty("forecast", INDEX, 3, m -> m.forecast(0, 0, far, 0));
        }
    }
}

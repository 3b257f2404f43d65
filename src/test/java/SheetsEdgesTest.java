import java.math.BigInteger;

/** Promises 24 to 32 at the edges that the document names, sentence by sentence. */
public final class SheetsEdgesTest {
    private static final Due due = new Due("SheetsEdgesTest");
    private static final long LOST = BetMaker.LOST;
    private static final int UNKNOWN = BetMaker.UNKNOWN, OUTSIDE = BetMaker.OUTSIDE;
    private static final int LEAST = Scene.LEAST, GREATEST = Scene.GREATEST;
    private static final int NULL = -11, CAST = -12, INDEX = -13, SIZE = -14;
    private static final int[] NO_LANES = {LEAST, -1, 3, 4, GREATEST};

    public static void main(String[] args) {
        ofSheet();
        ofLose();
        ofPut();
        ofAt();
        ofTell();
        ofGreet();
        ofAs();
        ofTrace();
        ofFault();
        due.close();
    }

    private static void ofSheet() {
        sheetsHaveNothing();
        sheetsShortestAndLongest();
        sheetNewRow();
        sheetUnknown();
        sheetOutside();
        sheetSize();
    }

    private static void ofLose() {
        loseARow();
        loseAnEmptyRow();
        loseUnknown();
    }

    private static void ofPut() {
        putBytes();
        putShorts();
        putInts();
        putUnknown();
        putNull();
        putIndex();
    }

    private static void ofAt() {
        atEachCell();
        atUnknown();
        atOutside();
        atCast();
        atNull();
        atIndex();
    }

    private static void ofTell() {
        tellPlain();
        tellWary();
        tellSure();
        tellNothing();
        tellUnknown();
    }

    private static void ofGreet() {
        greetEach();
        greetUnknown();
    }

    private static void ofAs() {
        asEach();
        asUnknown();
        asOutside();
        asCast();
    }

    private static void ofTrace() {
        traceAtFirst();
        traceWraps();
        traceIsOnlyLooked();
    }

    private static void ofFault() {
        faultAheadOfAny();
        faultOfTheLatest();
        faultOfRefusedOnes();
        faultStaysOverOthers();
    }

    // ---- sheet

    private static void sheetsHaveNothing() {
        due.sentence("24", "SHEETS 0 .. 3 have nothing (at first)");
        BetMaker m = new BetMaker();
        for (int k = 0; k <= 3; k++) {
            due.is("SHEET " + k, m.put(k, 0, 1), NULL);
            due.is("SHEET " + k, m.lose(k), 0);
        }
        m.sheet(0, 0, 5);
        m.sheet(3, 0, 5);
        due.is("another has nothing still", m.put(1, 0, 1), NULL);
        due.is("another has nothing still", m.put(2, 0, 1), NULL);
    }

    private static void sheetsShortestAndLongest() {
        due.sentence("24", "a row of 0 .. 24 numbers (0 at first) of a LANE: 0 bytes, 1 shorts, 2 ints");
        for (int lane = 0; lane <= 2; lane++) {
            BetMaker m = new BetMaker();
            for (int k = 0; k <= 3; k++) {
                due.is("the longest", m.sheet(k, lane, 24), 1);
                for (int i = 0; i < 24; i++) {
                    due.is("0 at first", m.at(k, i, lane), 0);
                }
                due.is("the last cell", m.put(k, 23, 9), 1);
                due.is("no more", m.put(k, 24, 9), INDEX);
            }
            due.is("one cell", m.sheet(0, lane, 1), 1);
            due.is("the only cell", m.put(0, 0, 9), 1);
            due.is("no more", m.put(0, 1, 9), INDEX);
            due.is("an empty row", m.sheet(0, lane, 0), 1);
            due.is("no cell", m.put(0, 0, 9), INDEX);
            due.is("no cell", m.at(0, 0, lane), LOST);
            due.is("it is there all the same", m.fault(), 3);
        }
    }

    private static void sheetNewRow() {
        due.sentence("24", "A SHEET gets a new row: 1.");
        BetMaker m = new BetMaker();
        Scene.fill(m, 0, 2, 7, 8, 70000);
        Scene.fill(m, 1, 2, 5);
        due.is("of the same LANE and length", m.sheet(0, 2, 3), 1);
        due.is("no fault", m.fault(), 0);
        for (int i = 0; i < 3; i++) {
            due.is("0 again", m.at(0, i, 2), 0);
        }
        due.is("another SHEET's", m.at(1, 0, 2), 5);
        m.put(0, 2, 9);
        due.is("shorter", m.sheet(0, 2, 2), 1);
        due.is("the last is gone", m.put(0, 2, 1), INDEX);
        due.is("longer again", m.sheet(0, 2, 3), 1);
        due.is("0 again", m.at(0, 2, 2), 0);
        due.is("of another LANE", m.sheet(0, 0, 3), 1);
        m.put(0, 0, 128);
        due.is("a byte now", m.at(0, 0, 0), -128);
        m.lose(0);
        due.is("after it was lost", m.sheet(0, 1, 1), 1);
        due.is("0 again", m.at(0, 0, 1), 0);
    }

    private static void sheetUnknown() {
        due.sentence("24", "UNKNOWN; OUTSIDE: lane, n above 24; SIZE.");
        BetMaker m = new BetMaker();
        for (int k : Scene.noneOf(4)) {
            due.is("sheet(" + k + ", 0, 1)", m.sheet(k, 0, 1), UNKNOWN);
            due.is("ahead of OUTSIDE", m.sheet(k, 3, 1), UNKNOWN);
            due.is("ahead of OUTSIDE", m.sheet(k, 0, 25), UNKNOWN);
            due.is("ahead of SIZE", m.sheet(k, 0, -1), UNKNOWN);
        }
        due.is("the last SHEET", m.sheet(3, 0, 1), 1);
    }

    private static void sheetOutside() {
        due.sentence("24", "OUTSIDE: lane, n above 24; SIZE.");
        BetMaker m = new BetMaker();
        Scene.fill(m, 0, 1, 300, 2);
        for (int lane : NO_LANES) {
            due.is("lane " + lane, m.sheet(0, lane, 1), OUTSIDE);
            due.is("lane " + lane + ", ahead of SIZE", m.sheet(0, lane, -1), OUTSIDE);
        }
        for (int n : new int[] {25, 26, 256, GREATEST}) {
            due.is("n " + n, m.sheet(0, 1, n), OUTSIDE);
            due.is("lane and n", m.sheet(0, 3, n), OUTSIDE);
        }
        due.is("no fault", m.fault(), 0);
        due.is("the old row stays", m.at(0, 0, 1), 300);
        due.is("as long as it was", m.put(0, 2, 1), INDEX);
        due.is("24 is not above 24", m.sheet(0, 1, 24), 1);
    }

    private static void sheetSize() {
        due.sentence("24", "4 SIZE (a length below 0)");
        BetMaker m = new BetMaker();
        Scene.fill(m, 0, 1, 300, 2);
        for (int n : new int[] {-1, -2, -24, -25, LEAST}) {
            for (int lane = 0; lane <= 2; lane++) {
                due.is("sheet(0, " + lane + ", " + n + ")", m.sheet(0, lane, n), SIZE);
                due.is("fault()", m.fault(), 4);
            }
        }
        due.is("the old row stays", m.at(0, 0, 1), 300);
        due.is("as long as it was", m.put(0, 2, 1), INDEX);
        due.is("one that has nothing", m.sheet(1, 0, -1), SIZE);
        due.is("has nothing still", m.lose(1), 0);
        due.is("0 is not below 0", m.sheet(0, 1, 0), 1);
        due.is("fault()", m.fault(), 0);
    }

    // ---- lose

    private static void loseARow() {
        due.sentence("25", "A SHEET has nothing: 1; 0: it had nothing.");
        BetMaker m = new BetMaker();
        for (int k = 0; k <= 3; k++) {
            due.is("it had nothing", m.lose(k), 0);
            m.sheet(k, 0, 24);
        }
        for (int k = 0; k <= 3; k++) {
            due.is("it had a row", m.lose(k), 1);
            due.is("it has nothing", m.put(k, 0, 0), NULL);
            due.is("it had nothing", m.lose(k), 0);
            due.is("another's row stays", m.put((k + 1) % 4, 0, 0), k == 3 ? NULL : 1);
        }
    }

    private static void loseAnEmptyRow() {
        due.sentence("25", "0: it had nothing.");
        BetMaker m = new BetMaker();
        m.sheet(2, 1, 0);
        due.is("an empty row is not nothing", m.lose(2), 1);
        due.is("now it is", m.lose(2), 0);
        m.sheet(2, 1, -1);
        due.is("nor did a SIZE bring one", m.lose(2), 0);
    }

    private static void loseUnknown() {
        due.sentence("25", "UNKNOWN.");
        BetMaker m = new BetMaker();
        for (int k = 0; k <= 3; k++) {
            m.sheet(k, 0, 1);
        }
        for (int k : Scene.noneOf(4)) {
            due.is("lose(" + k + ")", m.lose(k), UNKNOWN);
        }
        for (int k = 0; k <= 3; k++) {
            due.is("SHEET " + k + " stays", m.put(k, 0, 1), 1);
        }
    }

    // ---- put

    private static void isCut(int lane, long[][] cuts) {
        for (long[] cut : cuts) {
            BetMaker m = new BetMaker();
            m.sheet(0, lane, 3);
            due.is("put(0, 1, " + cut[0] + ")", m.put(0, 1, (int) cut[0]), 1);
            due.is("cut", m.at(0, 1, lane), cut[1]);
            due.is("the cell before", m.at(0, 0, lane), 0);
            due.is("the cell after", m.at(0, 2, lane), 0);
        }
    }

    private static void putBytes() {
        due.sentence("26", "what comes to a cell of it is cut to its LANE");
        isCut(0, new long[][] {{127, 127}, {128, -128}, {129, -127}, {255, -1}, {256, 0}, {257, 1}, {-128, -128},
            {-129, 127}, {-256, 0}, {32768, 0}, {65535, -1}, {GREATEST, -1}, {LEAST, 0}});
    }

    private static void putShorts() {
        due.sentence("26", "of a LANE: 0 bytes, 1 shorts, 2 ints; what comes to a cell of it is cut to its LANE");
        isCut(1, new long[][] {{127, 127}, {128, 128}, {256, 256}, {32767, 32767}, {32768, -32768}, {65535, -1},
            {65536, 0}, {65537, 1}, {-32768, -32768}, {-32769, 32767}, {GREATEST, -1}, {LEAST, 0}});
    }

    private static void putInts() {
        due.sentence("26", "2 ints; what comes to a cell of it is cut to its LANE");
        isCut(2, new long[][] {{128, 128}, {32768, 32768}, {65536, 65536}, {-32769, -32769}, {GREATEST, GREATEST},
            {LEAST, LEAST}, {-1, -1}});
    }

    private static void putUnknown() {
        due.sentence("26", "UNKNOWN; NULL; INDEX.");
        BetMaker m = new BetMaker();
        m.sheet(0, 0, 2);
        for (int k : Scene.noneOf(4)) {
            m.put(0, 2, 0);
            due.is("put(" + k + ", 0, 1)", m.put(k, 0, 1), UNKNOWN);
            due.is("refused: no fault", m.fault(), 0);
            due.is("ahead of NULL, INDEX", m.put(k, -1, 1), UNKNOWN);
        }
    }

    private static void putNull() {
        due.sentence("26", "NULL; INDEX.");
        BetMaker m = new BetMaker();
        for (int i : new int[] {LEAST, -1, 0, 24, GREATEST}) {
            due.is("put(3, " + i + ", 1)", m.put(3, i, 1), NULL);
            due.is("fault()", m.fault(), 1);
        }
    }

    private static void putIndex() {
        due.sentence("26", "Cell i of a SHEET becomes v: 1.");
        for (int n = 0; n <= 24; n += 8) {
            BetMaker m = new BetMaker();
            m.sheet(1, 2, n);
            for (int i : new int[] {LEAST, -1, n, n + 1, GREATEST}) {
                due.is("put(1, " + i + ", 1) of " + n, m.put(1, i, 1), INDEX);
                due.is("fault()", m.fault(), 3);
            }
            for (int i = 0; i < n; i++) {
                due.is("not changed", m.at(1, i, 2), 0);
                due.is("put", m.put(1, i, i + 1), 1);
                due.is("fault()", m.fault(), 0);
            }
            for (int i = 0; i < n; i++) {
                due.is("changed", m.at(1, i, 2), i + 1);
            }
        }
    }

    // ---- at

    private static BetMaker withSheets() {
        BetMaker m = new BetMaker();
        Scene.fill(m, 0, 0, 1, -2);
        Scene.fill(m, 1, 1, 300, -300);
        Scene.fill(m, 2, 2, 70000, -70000);
        return m;
    }

    private static void atEachCell() {
        due.sentence("27", "Cell i of what a SHEET has, taken as a row of a LANE.");
        BetMaker m = withSheets();
        long[][] rows = {{1, -2}, {300, -300}, {70000, -70000}};
        for (int k = 0; k < 3; k++) {
            for (int i = 0; i < 2; i++) {
                due.is("at(" + k + ", " + i + ", " + k + ")", m.at(k, i, k), rows[k][i]);
                due.is("fault()", m.fault(), 0);
            }
        }
    }

    private static void atUnknown() {
        due.sentence("27", "LOST: UNKNOWN, OUTSIDE: lane; FAULTS CAST (nothing is no CAST), NULL, INDEX.");
        BetMaker m = withSheets();
        for (int k : Scene.noneOf(4)) {
            for (int lane = 0; lane <= 3; lane++) {
                m.put(3, 0, 0);
                due.is("at(" + k + ", 0, " + lane + ")", m.at(k, 0, lane), LOST);
                due.is("refused: no fault", m.fault(), 0);
            }
        }
    }

    private static void atOutside() {
        due.sentence("27", "OUTSIDE: lane; FAULTS CAST (nothing is no CAST), NULL, INDEX.");
        BetMaker m = withSheets();
        for (int lane : NO_LANES) {
            for (int k = 0; k <= 3; k++) {
                m.put(3, 0, 0);
                due.is("at(" + k + ", 9, " + lane + ")", m.at(k, 9, lane), LOST);
                due.is("refused ahead of CAST, NULL, INDEX", m.fault(), 0);
            }
        }
    }

    private static void atCast() {
        due.sentence("27", "2 CAST (it is of another LANE, kind)");
        BetMaker m = withSheets();
        for (int k = 0; k < 3; k++) {
            for (int lane = 0; lane <= 2; lane++) {
                due.is("LANE " + k + " as " + lane, m.at(k, 0, lane) == LOST ? 1 : 0, k == lane ? 0 : 1);
                due.is("fault()", m.fault(), k == lane ? 0 : 2);
                m.at(k, -1, lane);
                due.is("ahead of INDEX", m.fault(), k == lane ? 3 : 2);
            }
        }
        m.sheet(0, 1, 0);
        m.at(0, 0, 0);
        due.is("an empty row of another LANE", m.fault(), 2);
    }

    private static void atNull() {
        due.sentence("27", "FAULTS CAST (nothing is no CAST), NULL, INDEX.");
        BetMaker m = withSheets();
        m.lose(0);
        for (int lane = 0; lane <= 2; lane++) {
            due.is("never had a row", m.at(3, 0, lane), LOST);
            due.is("fault()", m.fault(), 1);
            due.is("and INDEX", m.at(3, -1, lane), LOST);
            due.is("fault()", m.fault(), 1);
            due.is("lost its row", m.at(0, 0, lane), LOST);
            due.is("fault()", m.fault(), 1);
        }
    }

    private static void atIndex() {
        due.sentence("27", "NULL, INDEX.");
        for (int n = 0; n <= 24; n += 8) {
            BetMaker m = new BetMaker();
            m.sheet(0, 1, n);
            for (int i : new int[] {LEAST, -1, n, n + 1, GREATEST}) {
                due.is("at(0, " + i + ", 1) of " + n, m.at(0, i, 1), LOST);
                due.is("fault()", m.fault(), 3);
            }
            due.is("the last cell", m.at(0, n - 1, 1), n == 0 ? LOST : 0);
        }
    }

    // ---- tell, greet

    private static BetMaker kinds(int deals) {
        BetMaker m = new BetMaker();
        for (int t = 0; t < 6; t++) {
            m.trader(t % 3, 90000);
            for (int k = 0; k < deals; k++) {
                m.deal(t, 1, 1);
            }
        }
        return m;
    }

    private static int traceOf(int... bodies) {
        BigInteger trace = BigInteger.ZERO;
        for (int body : bodies) {
            trace = trace.multiply(BigInteger.valueOf(31)).add(BigInteger.valueOf(body));
        }
        return trace.intValue();
    }

    private static void tellPlain() {
        due.sentence("28", "PLAIN (1): how many DEALS he made.");
        BetMaker m = kinds(3);
        due.is("tell(0)", m.tell(0), 3);
        due.is("TRACE", m.trace(), traceOf(1));
        due.is("a refused DEAL", m.deal(3, 1, 0), OUTSIDE);
        due.is("a BARRED DEAL", m.deal(3, 1, 1000), -21);
        due.is("are not counted", m.tell(3), 3);
        due.is("TRACE", m.trace(), traceOf(1, 1));
        m.comes(0);
        due.is("after IT CAME", m.tell(0), 3);
    }

    private static void tellWary() {
        due.sentence("28", "WARY (2): what PLAIN's gives, and 100.");
        BetMaker m = kinds(3);
        due.is("tell(1)", m.tell(1), 103);
        due.is("TRACE", m.trace(), traceOf(2, 1));
    }

    private static void tellSure() {
        due.sentence("28", "SURE (3): what WARY's gives, and what PLAIN's gives (WARY's left out).");
        BetMaker m = kinds(3);
        due.is("tell(2)", m.tell(2), 106);
        due.is("TRACE", m.trace(), traceOf(3, 2, 1, 1));
    }

    private static void tellNothing() {
        due.sentence("28", "TELLING of a TRADER.");
        BetMaker m = kinds(0);
        long[] tellings = {0, 100, 100};
        for (int t = 0; t < 6; t++) {
            due.is("no DEAL, TRADER " + t, m.tell(t), tellings[t % 3]);
        }
    }

    private static void tellUnknown() {
        due.sentence("28", "UNKNOWN.");
        due.is("none is there", new BetMaker().tell(0), UNKNOWN);
        BetMaker m = kinds(1);
        m.tell(5);
        for (int t : Scene.noneOf(6)) {
            due.is("tell(" + t + ")", m.tell(t), UNKNOWN);
            due.is("TRACE stays", m.trace(), traceOf(3, 2, 1, 1));
        }
    }

    private static void greetEach() {
        due.sentence("29", "GREETED by a lent body (4): his number; SURE ones have their own (5): 90.");
        BetMaker m = kinds(2);
        long[] greetings = {0, 1, 90, 3, 4, 90};
        for (int t = 0; t < 6; t++) {
            due.is("greet(" + t + ")", m.greet(t), greetings[t]);
        }
        due.is("TRACE", m.trace(), traceOf(4, 4, 5, 4, 4, 5));
    }

    private static void greetUnknown() {
        due.sentence("29", "How he is GREETED. UNKNOWN.");
        due.is("none is there", new BetMaker().greet(0), UNKNOWN);
        BetMaker m = kinds(1);
        m.greet(5);
        for (int t : Scene.noneOf(6)) {
            due.is("greet(" + t + ")", m.greet(t), UNKNOWN);
            due.is("TRACE stays", m.trace(), traceOf(5));
        }
    }

    // ---- as

    private static void asEach() {
        due.sentence("30", "A TRADER, taken as one of a kind: 1.");
        for (int t = 0; t < 6; t++) {
            for (int kind = 0; kind <= 2; kind++) {
                BetMaker m = kinds(0);
                due.is("as(" + t + ", " + kind + ")", m.as(t, kind), t % 3 >= kind ? 1 : CAST);
                due.is("fault()", m.fault(), t % 3 >= kind ? 0 : 2);
                due.is("his kind stays", m.of(t, 3), t % 3);
                due.is("TRACE stays", m.trace(), 0);
            }
        }
    }

    private static void asUnknown() {
        due.sentence("30", "UNKNOWN; OUTSIDE; CAST: he is none (each is PLAIN, too; a SURE one is WARY).");
        BetMaker m = kinds(0);
        for (int t : Scene.noneOf(6)) {
            for (int kind = -1; kind <= 3; kind++) {
                m.put(0, 0, 0);
                due.is("as(" + t + ", " + kind + ")", m.as(t, kind), UNKNOWN);
                due.is("refused: no fault", m.fault(), 0);
            }
        }
        due.is("none is there", new BetMaker().as(0, 0), UNKNOWN);
    }

    private static void asOutside() {
        due.sentence("30", "OUTSIDE; CAST: he is none");
        BetMaker m = kinds(0);
        for (int kind : new int[] {LEAST, -1, 3, 4, GREATEST}) {
            for (int t = 0; t < 3; t++) {
                m.put(0, 0, 0);
                due.is("as(" + t + ", " + kind + ")", m.as(t, kind), OUTSIDE);
                due.is("refused: no fault", m.fault(), 0);
            }
        }
    }

    private static void asCast() {
        due.sentence("30", "CAST: he is none (each is PLAIN, too; a SURE one is WARY).");
        BetMaker m = kinds(0);
        due.is("a PLAIN one is not WARY", m.as(0, 1), CAST);
        due.is("a PLAIN one is not SURE", m.as(0, 2), CAST);
        due.is("a WARY one is not SURE", m.as(1, 2), CAST);
        due.is("fault()", m.fault(), 2);
        due.is("a WARY one is PLAIN", m.as(1, 0), 1);
        due.is("a SURE one is WARY", m.as(2, 1), 1);
        due.is("a SURE one is PLAIN", m.as(2, 0), 1);
        due.is("fault()", m.fault(), 0);
    }

    // ---- trace

    private static void traceAtFirst() {
        due.sentence("31", "TRACE (an int that wraps, 0 at first, becomes 31 times it and the number)");
        BetMaker m = kinds(1);
        due.is("0 at first", m.trace(), 0);
        m.greet(0);
        due.is("31 times 0, and 4", m.trace(), 4);
        m.tell(0);
        due.is("31 times 4, and 1", m.trace(), 125);
    }

    private static void traceWraps() {
        due.sentence("31", "an int that wraps");
        BetMaker m = kinds(0);
        int[] bodies = new int[40];
        boolean below = false;
        for (int k = 0; k < 40; k++) {
            m.greet(2);
            bodies[k] = 5;
            int want = traceOf(java.util.Arrays.copyOf(bodies, k + 1));
            below |= want < 0;
            due.is("after " + (k + 1), m.trace(), want);
        }
        due.holds("it was below 0 in between", below);
        m.tell(2);
        due.is("as bodies begin", m.trace(), wrapped(bodies));
    }

    private static int wrapped(int[] bodies) {
        int[] more = java.util.Arrays.copyOf(bodies, 44);
        System.arraycopy(new int[] {3, 2, 1, 1}, 0, more, 40, 4);
        return traceOf(more);
    }

    private static void traceIsOnlyLooked() {
        due.sentence("31", "TRACE.");
        BetMaker m = kinds(1);
        m.greet(0);
        due.is("once", m.trace(), 4);
        due.is("again", m.trace(), 4);
        m.deal(2, 1, 1);
        m.as(2, 1);
        m.of(2, 3);
        m.told(5);
        m.comes(0);
        due.is("other calls leave none", m.trace(), 4);
    }

    // ---- fault

    private static void faultAheadOfAny() {
        due.sentence("32", "(0 ahead of any)");
        BetMaker m = new BetMaker();
        due.is("ahead of any call", m.fault(), 0);
        m.begin(9, 9);
        m.lose(9);
        m.tell(9);
        due.is("ahead of any that names one", m.fault(), 0);
    }

    private static void faultOfTheLatest() {
        due.sentence("32", "The FAULT of the latest call that names one: 0: it came to none, or was refused");
        BetMaker m = Scene.begun(3, 10, 0);
        Scene.fill(m, 1, 0, 1, 1, 1);
        int[] faults = {4, 1, 3, 2, 1, 3, 2, 2, 3};
        for (int which = 0; which < faults.length; which++) {
            provoke(m, which);
            due.is("fault " + which, m.fault(), faults[which]);
            due.is("again", m.fault(), faults[which]);
            m.put(1, 0, 1);
            due.is("a put() that came to none", m.fault(), 0);
        }
    }

    private static void provoke(BetMaker m, int which) {
        switch (which) {
            case 0 -> m.sheet(0, 0, -1);
            case 1 -> m.put(0, 0, 0);
            case 2 -> m.put(1, 3, 0);
            case 3 -> m.at(1, 0, 1);
            case 4 -> m.beliefs(0, 0, 0, 0);
            case 5 -> m.beliefs(0, 1, 0, 1);
            case 6 -> m.forecast(1, 2, 0, 0);
            case 7 -> m.as(0, 1);
            default -> m.forecast(1, 0, -1, 0);
        }
    }

    private static void faultOfRefusedOnes() {
        due.sentence("32", "0: it came to none, or was refused");
        for (int which = 0; which < 18; which++) {
            BetMaker m = Scene.begun(3, 10, 0);
            Scene.fill(m, 1, 0, 1, 1, 1, 0, 0, 0, 101);
            m.put(0, 0, 0);
            due.is("before", m.fault(), 1);
            refusedOrDone(m, which);
            due.is("after call " + which, m.fault(), 0);
        }
    }

    private static void refusedOrDone(BetMaker m, int which) {
        switch (which) {
            case 0 -> m.beliefs(1, 0, 0, 0);
            case 1 -> m.beliefs(0, 4, 0, 0);
            case 2 -> m.beliefs(0, 0, 3, 0);
            case 3 -> m.beliefs(0, 1, 0, 3);
            case 4 -> m.beliefs(0, 1, 0, 4);
            case 5 -> m.beliefs(0, 1, 0, 0);
            case 6 -> m.forecast(4, 0, 0, 0);
            case 7 -> m.forecast(0, 0, 0, 3);
            case 8 -> m.forecast(0, 3, 0, 0);
            case 9 -> m.forecast(1, 0, 3, 0);
            case 10 -> m.forecast(1, 0, 0, 0);
            case 11 -> m.sheet(4, 0, 1);
            case 12 -> m.sheet(0, 3, 1);
            case 13 -> m.sheet(0, 0, 1);
            case 14 -> m.put(4, 0, 0);
            case 15 -> m.at(1, 0, 3);
            case 16 -> m.as(0, 0);
            default -> m.as(0, 3);
        }
    }

    private static void faultStaysOverOthers() {
        due.sentence("32", "The FAULT of the latest call that names one");
        BetMaker m = Scene.begun(3, 10, 9000);
        m.sheet(0, 0, -1);
        for (int round = 0; round < 2; round++) {
            m.trader(0, 0);
            m.price(1);
            m.quote(0, 1, 1);
            m.barred(0, 1, 1);
            m.deal(0, 1, 1);
            m.about(0, 0);
            m.maker(0);
            m.of(0, 0);
            m.believe(0, 0, 1);
            m.worth(0, 1, 1);
            m.best(0, 1);
            m.offer(1, 1, 1);
            m.most(0, 1);
            m.sure();
            m.bundle(0);
            m.score(0, 0);
            m.honest(0, 0, 0);
            m.held(0, 0, 0);
            m.lose(round == 0 ? 0 : 4);
            m.tell(0);
            m.greet(0);
            m.trace();
            m.told(0);
            due.is("done or refused, they name none", m.fault(), 4);
            m.comes(0);
            due.is("comes()", m.fault(), 4);
            m.begin(round == 0 ? 2 : 9, 5);
            due.is("begin()", m.fault(), 4);
        }
    }
}

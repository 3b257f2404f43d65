/**
 * All that can be seen of an object but fault(), which asking for SHEETS
 * moves. For objects with few CASES: the calls must stay within 512.
 */
final class Seen {
    private static final int CELLS = 9;

    private final BetMaker m;
    private final StringBuilder text = new StringBuilder();

    private Seen(BetMaker m) {
        this.m = m;
    }

    /** Asks what only changing calls tell, too: the object is used up by it. */
    static String of(BetMaker m) {
        Seen seen = new Seen(m);
        seen.counts();
        seen.maker();
        seen.traders();
        seen.forecasts();
        seen.sheets();
        seen.board();
        return seen.text.toString();
    }

    private void add(long answer) {
        text.append(answer).append(' ');
    }

    private void counts() {
        for (int what = 0; what <= 5; what++) {
            add(m.told(what));
        }
        add(m.trace());
    }

    private void maker() {
        for (int what = 0; what <= 4; what++) {
            add(m.maker(what));
        }
        for (int c = 0; c < m.told(0); c++) {
            add(m.about(c, 0));
            add(m.about(c, 2));
        }
    }

    private void traders() {
        int n = m.told(0);
        for (int t = 0; t < m.told(2); t++) {
            for (int what = 0; what <= 3; what++) {
                add(m.of(t, what));
            }
            for (int c = 0; c < n; c++) {
                add(m.of(t, 10 + c));
                add(m.of(t, 20 + c));
            }
        }
    }

    private void forecasts() {
        for (int f = 0; f < Math.min(3, m.told(4)); f++) {
            add(m.score(f, 0));
            add(m.score(f, 1));
            add(m.honest(0, f, 0));
            add(m.honest(0, f, 1));
        }
    }

    private void sheets() {
        for (int k = 0; k < 4; k++) {
            for (int i = 0; i < CELLS; i++) {
                for (int lane = 0; lane <= 2; lane++) {
                    add(m.at(k, i, lane));
                }
                add(m.fault());
            }
        }
    }

    private void board() {
        add(m.sure());
        for (int f = 0; f < m.told(3); f++) {
            add(m.bundle(f));
        }
        for (int f = 0; f < m.told(3); f++) {
            add(m.most(f, 0));
        }
    }
}

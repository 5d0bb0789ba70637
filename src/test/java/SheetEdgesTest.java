// The edges that promises 21 to 31 name beside their refusals: sheets, parts, and what is told.
public final class SheetEdgesTest extends Checks {
    public static void main(String[] args) {
        sheetSizes();
        sheetIsNew();
        sheetsAreFour();
        lose();
        putFirstAndLast();
        putOfLanes();
        cellByLanes();
        cellFirstAndLast();
        copyAtTheEnds();
        copyOfNone();
        copyOntoItself();
        copyBeyond();
        copyNothing();
        copyLanes();
        copyIsNoLoan();
        tellByPorts();
        tellByMarks();
        hear();
        asNone();
        traceGoesOn();
        faultAheadOfAny();
        toldOfNothing();
        toldAtMost();
        finish("the edges of sheets and parts are kept");
    }

    private static void sheetSizes() {
        under("Promise 21", "UNKNOWN; OUTSIDE: lane, n above 60; SIZE.");
        AlikePosts x = new AlikePosts();
        for (int lane = 0; lane < 3; lane++) {
            for (int n : new int[] {0, 1, 59, 60}) {
                due(x.sheet(3, lane, n), 1);
                due(x.put(3, n, 1), -13);
                due(x.put(3, n - 1, 1), n == 0 ? -13 : 1);
                due(x.lose(3), 1);
            }
            for (int n : new int[] {61, 62, MAX}) {
                due(x.sheet(3, lane, n), -2);
                due(x.fault(), 0);
                due(x.lose(3), 0);
            }
            for (int n : new int[] {-1, -60, MIN}) {
                due(x.sheet(3, lane, n), -14);
                due(x.fault(), 4);
                due(x.lose(3), 0);
            }
        }
        for (int lane : beyond(3)) {
            due(x.sheet(3, lane, 0), -2);
            due(x.sheet(3, lane, -1), -2);
        }
        for (int k : beyond(4)) {
            due(x.sheet(k, 0, 0), -1);
        }
    }

    private static void sheetIsNew() {
        under("Promise 21", "A SHEET gets a new row: 1.");
        AlikePosts x = new AlikePosts();
        fill(x, 1, 2, new int[60]);
        for (int i = 0; i < 60; i++) {
            due(x.put(1, i, i + 1), 1);
        }
        // Shorter, of another lane, and long again: of the earlier cells none is left.
        due(x.sheet(1, 0, 2), 1);
        cells(x, 1, 0, 0, 0);
        due(x.cell(1, 2, 0), LOST);
        due(x.fault(), 3);
        due(x.cell(1, 0, 2), LOST);
        due(x.fault(), 2);
        due(x.put(1, 1, 7), 1);
        due(x.sheet(1, 0, 2), 1);
        cells(x, 1, 0, 0, 0);
        due(x.sheet(1, 1, 60), 1);
        for (int i = 0; i < 60; i++) {
            due(x.cell(1, i, 1), 0);
        }
        // Behind lose(), too.
        due(x.put(1, 0, 7), 1);
        due(x.lose(1), 1);
        due(x.sheet(1, 1, 1), 1);
        cells(x, 1, 1, 0);
    }

    private static void sheetsAreFour() {
        under("Promise 21", "A SHEET gets a new row: 1.");
        AlikePosts x = new AlikePosts();
        for (int k = 0; k < 4; k++) {
            fill(x, k, 2, 10 + k, 20 + k);
        }
        for (int k = 0; k < 4; k++) {
            cells(x, k, 2, 10 + k, 20 + k);
        }
        x.sheet(2, 0, 1);
        x.lose(1);
        cells(x, 0, 2, 10, 20);
        cells(x, 3, 2, 13, 23);
        // The net goes, and the sheets stay.
        x.clear();
        cells(x, 3, 2, 13, 23);
    }

    private static void lose() {
        under("Promise 22", "A SHEET has nothing: 1; 0: it had nothing. UNKNOWN.");
        AlikePosts x = new AlikePosts();
        for (int k = 0; k < 4; k++) {
            due(x.lose(k), 0);
            x.sheet(k, 0, k == 0 ? 0 : 60);
            due(x.lose(k), 1);
            due(x.lose(k), 0);
            due(x.put(k, 0, 0), -11);
            due(x.cell(k, 0, 0), LOST);
            due(x.fault(), 1);
            due(x.lines(k, 0, 0, 0), -11);
        }
        for (int k : beyond(4)) {
            due(x.lose(k), -1);
        }
    }

    private static void putFirstAndLast() {
        under("Promise 23", "Cell i of a SHEET becomes v: 1. UNKNOWN; NULL; INDEX.");
        AlikePosts x = new AlikePosts();
        x.sheet(0, 2, 60);
        due(x.put(0, 0, MIN), 1);
        due(x.put(0, 59, MAX), 1);
        due(x.put(0, 60, 1), -13);
        due(x.put(0, -1, 1), -13);
        due(x.put(0, MIN, 1), -13);
        due(x.put(0, MAX, 1), -13);
        due(x.cell(0, 0, 2), MIN);
        due(x.cell(0, 59, 2), MAX);
        for (int i = 1; i < 59; i++) {
            due(x.cell(0, i, 2), 0);
        }
        x.sheet(0, 2, 1);
        due(x.put(0, 0, 5), 1);
        due(x.put(0, 1, 5), -13);
        x.sheet(0, 2, 0);
        due(x.put(0, 0, 5), -13);
        due(x.fault(), 3);
    }

    private static void putOfLanes() {
        under("Promise 23", "Cell i of a SHEET becomes v");
        AlikePosts x = new AlikePosts();
        fill(x, 0, 0, 127, -128, 128, -129, MAX, MIN);
        cells(x, 0, 0, 127, -128, -128, 127, -1, 0);
        fill(x, 0, 1, 32767, -32768, 32768, -32769, MAX, MIN);
        cells(x, 0, 1, 32767, -32768, -32768, 32767, -1, 0);
        fill(x, 0, 2, 32768, -32769, MAX, MIN);
        cells(x, 0, 2, 32768, -32769, MAX, MIN);
    }

    private static void met(AlikePosts x, int k, int i, int lane, int fault) {
        due(x.cell(k, i, lane), LOST);
        due(x.fault(), fault);
    }

    private static void cellByLanes() {
        under("Promise 24", "FAULTS CAST (nothing is no CAST), NULL, INDEX");
        for (int lane = 0; lane < 3; lane++) {
            AlikePosts x = new AlikePosts();
            fill(x, 0, lane, 5);
            for (int as = 0; as < 3; as++) {
                due(x.cell(0, 0, as), as == lane ? 5 : LOST);
                due(x.fault(), as == lane ? 0 : 2);
                met(x, 0, 1, as, as == lane ? 3 : 2);
                met(x, 0, -1, as, as == lane ? 3 : 2);
                met(x, 1, 0, as, 1);
                met(x, 1, -1, as, 1);
            }
            for (int as : beyond(3)) {
                met(x, 0, 0, as, 0);
                met(x, 1, 0, as, 0);
            }
            for (int k : beyond(4)) {
                met(x, k, 0, lane, 0);
                met(x, k, 0, 3, 0);
            }
        }
    }

    private static void cellFirstAndLast() {
        under("Promise 24", "Cell i of what a SHEET has, taken as a row of a LANE.");
        AlikePosts x = new AlikePosts();
        fill(x, 3, 1, new int[60]);
        x.put(3, 59, -1);
        due(x.cell(3, 59, 1), -1);
        due(x.cell(3, 0, 1), 0);
        met(x, 3, 60, 1, 3);
        met(x, 3, -1, 1, 3);
        met(x, 3, MIN, 1, 3);
        met(x, 3, MAX, 1, 3);
        x.sheet(3, 1, 0);
        met(x, 3, 0, 1, 3);
    }

    private static void copyAtTheEnds() {
        under("Promise 25", "n cells of a SHEET from i on go to another one (perhaps the same) from j on, as they were: n.");
        AlikePosts x = new AlikePosts();
        x.sheet(0, 2, 60);
        x.sheet(1, 2, 60);
        for (int i = 0; i < 60; i++) {
            x.put(0, i, i + 1);
        }
        due(x.copy(0, 59, 1, 0, 1), 1);
        due(x.cell(1, 0, 2), 60);
        due(x.copy(0, 0, 1, 59, 1), 1);
        due(x.cell(1, 59, 2), 1);
        due(x.cell(1, 1, 2), 0);
        due(x.cell(1, 58, 2), 0);
        due(x.copy(0, 0, 1, 0, 60), 60);
        for (int i = 0; i < 60; i++) {
            due(x.cell(1, i, 2), i + 1);
        }
        due(x.fault(), 0);
    }

    private static void copyOfNone() {
        under("Promise 25", "INDEX: i, j, n below 0 or beyond");
        AlikePosts x = new AlikePosts();
        fill(x, 0, 1, 1, 2, 3);
        fill(x, 1, 1, 4, 5);
        due(x.copy(0, 3, 1, 2, 0), 0);
        due(x.fault(), 0);
        due(x.copy(0, 0, 1, 0, 0), 0);
        due(x.copy(0, 4, 1, 2, 0), -13);
        due(x.copy(0, 3, 1, 3, 0), -13);
        due(x.copy(0, -1, 1, 0, 0), -13);
        due(x.copy(0, 0, 1, -1, 0), -13);
        x.sheet(2, 1, 0);
        due(x.copy(2, 0, 2, 0, 0), 0);
        due(x.copy(2, 0, 0, 3, 0), 0);
        due(x.copy(0, 0, 2, 0, 1), -13);
        due(x.copy(2, 0, 0, 0, 1), -13);
        cells(x, 0, 1, 1, 2, 3);
        cells(x, 1, 1, 4, 5);
    }

    private static void copyOntoItself() {
        under("Promise 25", "(perhaps the same) from j on, as they were");
        for (int i = 0; i <= 5; i++) {
            for (int j = 0; j <= 5; j++) {
                AlikePosts x = new AlikePosts();
                int[] want = {1, 2, 3, 4, 5};
                fill(x, 2, 0, want);
                int n = 5 - Math.max(i, j);
                System.arraycopy(want.clone(), i, want, j, n);
                due(x.copy(2, i, 2, j, n), n);
                cells(x, 2, 0, want);
                due(x.copy(2, i, 2, j, n + 1), -13);
                cells(x, 2, 0, want);
            }
        }
    }

    private static void copyBeyond() {
        under("Promise 25", "INDEX: i, j, n below 0 or beyond");
        AlikePosts x = new AlikePosts();
        fill(x, 0, 2, 1, 2, 3, 4);
        fill(x, 1, 2, 5, 6, 7);
        String before = seen(x);
        // What is there may not come, where the rest is not.
        due(x.copy(0, 1, 1, 0, 4), -13);
        due(x.copy(0, 0, 1, 0, 4), -13);
        due(x.copy(0, 0, 1, 1, 3), -13);
        due(x.copy(1, 0, 0, 0, 4), -13);
        for (int n : new int[] {-1, MIN, MIN + 1, MAX, MAX - 1}) {
            due(x.copy(0, 1, 1, 1, n), -13);
            due(x.copy(0, 4, 1, 3, n), -13);
            due(x.copy(0, 0, 0, 0, n), -13);
        }
        for (int at : new int[] {-1, MIN, MAX, 5}) {
            due(x.copy(0, at, 1, 0, 1), -13);
            due(x.copy(1, 0, 0, at, 1), -13);
            due(x.copy(0, at, 1, at, MAX), -13);
            due(x.copy(0, at, 1, at, MIN), -13);
        }
        // Two wrong numbers that make a right sum.
        due(x.copy(0, -1, 1, 0, 2), -13);
        due(x.copy(0, 2, 1, 2, -1), -13);
        due(x.copy(0, -2, 1, -2, 3), -13);
        due(x.fault(), 3);
        same(seen(x), before);
    }

    private static void copyNothing() {
        under("Promise 25", "FAULTS NULL (the first, the other)");
        AlikePosts x = new AlikePosts();
        fill(x, 0, 2, 1, 2);
        due(x.copy(1, 0, 0, 0, 0), -11);
        due(x.copy(0, 0, 1, 0, 0), -11);
        due(x.copy(1, 0, 1, 0, 0), -11);
        due(x.copy(1, 0, 2, 0, 0), -11);
        due(x.fault(), 1);
        for (int k : beyond(4)) {
            due(x.copy(k, 0, 1, 0, 0), -1);
            due(x.copy(1, 0, k, 0, 0), -1);
            due(x.fault(), 0);
        }
        cells(x, 0, 2, 1, 2);
    }

    private static void copyLanes() {
        under("Promise 25", "CAST (unlike LANES)");
        AlikePosts x = new AlikePosts();
        for (int k = 0; k < 3; k++) {
            fill(x, k, k, 1, 2, 3);
        }
        for (int k = 0; k < 3; k++) {
            for (int other = 0; other < 3; other++) {
                due(x.copy(k, 0, other, 0, 0), k == other ? 0 : -12);
                due(x.copy(k, 0, other, 0, 9), k == other ? -13 : -12);
                fill(x, 3, other, 7);
                due(x.copy(k, 2, 3, 0, 1), k == other ? 1 : -12);
                due(x.cell(3, 0, other), k == other ? 3 : 7);
            }
        }
    }

    private static void copyIsNoLoan() {
        under("Promise 25", "n cells of a SHEET from i on go to another one");
        AlikePosts x = new AlikePosts();
        fill(x, 0, 2, 1, 2);
        fill(x, 1, 2, 3, 4);
        due(x.copy(0, 0, 1, 0, 2), 2);
        x.put(1, 0, 9);
        cells(x, 0, 2, 1, 2);
        x.put(0, 1, 8);
        cells(x, 1, 2, 9, 2);
        x.lose(0);
        cells(x, 1, 2, 9, 2);
    }

    private static void tellByPorts() {
        under("Promise 26", "TELLING of a POST. UNKNOWN.");
        AlikePosts x = posts(4, 9);
        int trace = 31 * 0 + 1;
        due(x.tell(0), 4);
        due(x.trace(), trace);
        for (int ports = 1; ports <= 6; ports++) {
            x.line(0, 1);
            due(x.tell(0), ports == 1 ? -5 : 4 + ports);
            trace = (trace * 31 + (ports == 1 ? 3 : 2)) * 31 + 1;
            due(x.trace(), trace);
        }
        due(x.tell(1), 15);
        x.clear();
        due(x.tell(0), -1);
        x.post(3);
        due(x.tell(0), 3);
        due(x.trace(), ((trace * 31 + 2) * 31 + 1) * 31 + 1);
    }

    private static void tellByMarks() {
        under("Promise 26", "TELLING of a POST.");
        AlikePosts x = path(12);
        x.clear();
        for (int mark = 0; mark <= 9; mark++) {
            x.post(mark);
            due(x.tell(mark), mark);
        }
        for (int p = 1; p <= 9; p++) {
            x.line(p - 1, p);
            due(x.tell(p), -p - 1);
            due(x.tell(p - 1), p == 1 ? -1 : p - 1 + 2);
        }
    }

    private static void hear() {
        under("Promise 27", "How it is HEARD. UNKNOWN.");
        AlikePosts x = posts(new int[12]);
        for (int p = 0; p < 12; p++) {
            due(x.hear(p), p);
        }
        x.line(0, 11);
        due(x.hear(0), 70);
        due(x.hear(11), 70);
        x.line(0, 11);
        due(x.hear(0), 0);
        due(x.hear(11), 11);
        int trace = 0;
        for (int body : new int[] {4, 4, 4, 4, 4, 4, 4, 4, 4, 4, 4, 4, 5, 5, 4, 4}) {
            trace = 31 * trace + body;
        }
        due(x.trace(), trace);
    }

    private static void asNone() {
        under("Promise 28", "CAST: it is none (an END is JOINED, each is a POST)");
        AlikePosts x = hub();
        x.post(0);
        // Posts 0: six ports; 6: one port; 7: none.
        int[][] want = {{0, 1, 1, -12}, {6, 1, 1, 1}, {7, 1, -12, -12}};
        for (int[] row : want) {
            for (int kind = 0; kind < 3; kind++) {
                due(x.as(row[0], kind), row[1 + kind]);
                due(x.fault(), row[1 + kind] == 1 ? 0 : 2);
            }
        }
        x.line(6, 7);
        due(x.as(6, 2), -12);
        due(x.as(7, 2), 1);
        for (int kind : beyond(3)) {
            due(x.as(0, kind), -2);
            due(x.as(8, kind), -1);
        }
        due(x.trace(), 0);
    }

    private static void traceGoesOn() {
        under("Promise 29", "TRACE.");
        AlikePosts x = path(3);
        due(x.trace(), 0);
        due(x.trace(), 0);
        x.hear(0);
        x.clear();
        due(x.trace(), 5);
        x.post(0);
        x.tell(0);
        due(x.trace(), 5 * 31 + 1);
        x.tell(1);
        x.hear(-1);
        x.as(0, 0);
        due(x.trace(), 5 * 31 + 1);
        due(new AlikePosts().trace(), 0);
    }

    private static void faultAheadOfAny() {
        under("Promise 30", "(0 ahead of any)");
        AlikePosts x = new AlikePosts();
        due(x.fault(), 0);
        x.post(10);
        x.lose(9);
        x.tell(0);
        x.lots(9, 9);
        due(x.fault(), 0);
        due(x.put(0, 0, 0), -11);
        due(x.fault(), 1);
        // It is of one object alone.
        due(new AlikePosts().fault(), 0);
        due(x.fault(), 1);
    }

    private static void toldOfNothing() {
        under("Promise 31", "How many: 0 POSTS, 1 LINES, 2 unlike RANKS AT REST, 3 ENDS, 4 POSTS come to from POST 0. OUTSIDE.");
        AlikePosts x = new AlikePosts();
        AlikePosts y = packed();
        y.clear();
        for (int what = 0; what < 5; what++) {
            due(x.told(what), 0);
            due(y.told(what), 0);
        }
        for (int what : beyond(5)) {
            due(x.told(what), -2);
        }
        x.post(0);
        int[] want = {1, 0, 1, 0, 1};
        for (int what = 0; what < 5; what++) {
            due(x.told(what), want[what]);
        }
    }

    private static void toldAll(AlikePosts x, int... want) {
        for (int what = 0; what < 5; what++) {
            due(x.told(what), want[what]);
        }
    }

    private static void toldAtMost() {
        under("Promise 31", "How many: 0 POSTS, 1 LINES, 2 unlike RANKS AT REST, 3 ENDS, 4 POSTS come to from POST 0.");
        toldAll(posts(new int[12]), 12, 0, 1, 0, 1);
        toldAll(path(12), 12, 11, 12, 2, 12);
        toldAll(evenRing(12), 12, 12, 1, 0, 12);
        toldAll(hub(), 7, 6, 7, 6, 7);
        AlikePosts x = packed();
        due(x.told(0), 12);
        due(x.told(1), 36);
        due(x.told(3), 0);
        due(x.told(4), 12);
        AlikePosts y = path(6);
        y.doubled(0, 0);
        toldAll(y, 12, 10, 6, 4, 6);
        // Twelve ends, six lines.
        AlikePosts z = posts(new int[12]);
        for (int p = 0; p < 12; p += 2) {
            z.line(p, p + 1);
        }
        toldAll(z, 12, 6, 1, 12, 2);
    }
}

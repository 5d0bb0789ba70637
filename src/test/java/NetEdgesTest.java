// The edges that promises 1 to 20 name beside their refusals: empty, full, first, last, none.
public final class NetEdgesTest extends Checks {
    public static void main(String[] args) {
        newObject();
        clear();
        post();
        mark();
        line();
        lineFull();
        linesOfWholeSheet();
        linesOfNone();
        linesIndex();
        linesByLanes();
        linesRefusedByTheFirst();
        linesFullWithin();
        swap();
        swapOfOne();
        end();
        doubledMost();
        about();
        aboutFar();
        together();
        rankDepths();
        restWithoutPosts();
        ranksWithoutPosts();
        apart();
        chosenNone();
        flood();
        floodedNone();
        floodedIsGone();
        floodedStays();
        floodedAnew();
        word();
        lots();
        finish("the edges of nets, ranks and floods are kept");
    }

    private static void nothingThere(AlikePosts x) {
        for (int what = 0; what < 5; what++) {
            due(x.told(what), 0);
        }
        due(x.together(), 0);
        due(x.rest(), -3);
        due(x.ranks(0), 0);
        due(x.chosen(), -9);
        due(x.flooded(0, 0), -3);
        due(x.word(0), -3);
        due(x.lots(1, 0), LOST);
        due(x.about(0, 0), -1);
    }

    private static void newObject() {
        under("Promise 1", "No POSTS, LINES, SHEETS; nothing was FLOODED.");
        AlikePosts other = packed();
        other.flood(0, 0);
        other.sheet(0, 0, 60);
        other.tell(0);
        other.put(1, 0, 0);
        AlikePosts x = new AlikePosts();
        due(x.fault(), 0);
        due(x.trace(), 0);
        nothingThere(x);
        for (int k = 0; k < 4; k++) {
            due(x.lose(k), 0);
            due(x.put(k, 0, 0), -11);
        }
        due(x.post(0), 0);
    }

    private static void clear() {
        under("Promise 2", "All POSTS and LINES go: how many POSTS there were.");
        AlikePosts x = packed();
        x.flood(0, 0);
        fill(x, 0, 2, 5, 6);
        x.hear(0);
        due(x.clear(), 12);
        nothingThere(x);
        due(x.clear(), 0);
        nothingThere(x);
        // Sheets and trace are none of them.
        cells(x, 0, 2, 5, 6);
        due(x.trace(), 4);
        // No mark, port or line is left of the posts that were.
        for (int p = 0; p < 12; p++) {
            due(x.post(p % 2), p);
            due(x.about(p, 0), p % 2);
            due(x.about(p, 1), 0);
        }
        due(x.told(4), 1);
        due(x.ranks(20), 2);
        due(x.line(11, 0), 1);
        due(x.end(0, 0, 0), 11);
    }

    private static void post() {
        under("Promise 3", "A POST: its number. OUTSIDE; FULL.");
        AlikePosts x = posts(new int[11]);
        due(x.post(9), 11);
        due(x.post(9), -4);
        due(x.post(0), -4);
        AlikePosts y = path(6);
        due(y.doubled(0, 0), 12);
        due(y.post(0), -4);
        due(y.clear(), 12);
        due(y.post(0), 0);
        AlikePosts z = path(5);
        due(z.doubled(0, 0), 10);
        due(z.post(3), 10);
        due(z.about(10, 1), 0);
        due(z.about(10, 0), 3);
        due(z.post(4), 11);
        due(z.post(5), -4);
    }

    private static void mark() {
        under("Promise 4", "MARK of a POST becomes another one: what it was.");
        AlikePosts x = posts(new int[12]);
        int was = 0;
        for (int mark = 9; mark >= 0; mark--) {
            due(x.mark(11, mark), was);
            due(x.mark(11, mark), mark);
            due(x.about(11, 0), mark);
            was = mark;
        }
        due(x.mark(0, 9), 0);
        due(x.about(1, 0), 0);
        // Ranks are those of the new marks.
        due(x.rank(0, 20), 1);
        due(x.mark(1, 8), 0);
        due(x.rank(0, 20), 2);
        due(x.mark(0, 0), 9);
        due(x.rank(0, 20), 0);
        due(x.told(2), 2);
    }

    private static void line() {
        under("Promise 5", "A LINE between two POSTS, by the next PORT of each: how many there are.");
        AlikePosts x = posts(new int[12]);
        int count = 0;
        for (int p = 0; p < 12; p++) {
            for (int step = 1; step <= 3; step++) {
                int q = (p + step) % 12;
                int port = x.about(p, 1);
                int far = x.about(q, 1);
                count++;
                due(x.line(p, q), count);
                due(x.end(p, port, 0), q);
                due(x.end(p, port, 1), far);
                due(x.end(q, far, 0), p);
                due(x.end(q, far, 1), port);
            }
        }
        due(x.told(1), 36);
        due(x.line(0, 11), -4);
    }

    private static void lineFull() {
        under("Promise 5", "FULL: one has six PORTS");
        AlikePosts x = hub();
        due(x.line(0, 1), -4);
        due(x.line(1, 0), -4);
        due(x.line(1, 2), 7);
        for (int i = 0; i < 4; i++) {
            due(x.line(1, 2), 8 + i);
        }
        due(x.about(1, 1), 6);
        due(x.line(1, 2), -4);
        due(x.line(0, 1), -4);
        due(x.line(2, 3), -4);
        due(x.line(3, 4), 12);
        due(x.told(1), 12);
    }

    private static void linesOfWholeSheet() {
        under("Promise 6", "two each (POSTS), n of them from cell i on: how many there are then.");
        AlikePosts x = posts(new int[12]);
        AlikePosts y = posts(new int[12]);
        x.sheet(3, 2, 60);
        for (int line = 0; line < 30; line++) {
            int p = line % 12;
            int q = (p + 1 + line / 12) % 12;
            x.put(3, 2 * line, p);
            x.put(3, 2 * line + 1, q);
            y.line(p, q);
        }
        due(x.lines(3, 2, 0, 31), -13);
        due(x.lines(3, 2, 0, 30), 30);
        for (int p = 0; p < 12; p++) {
            due(x.about(p, 1), y.about(p, 1));
            for (int port = 0; port < 6; port++) {
                due(x.end(p, port, 0), y.end(p, port, 0));
                due(x.end(p, port, 1), y.end(p, port, 1));
            }
        }
        due(x.lines(3, 2, 58, 1), -4);
        due(x.lines(3, 2, 59, 1), -13);
        due(x.lines(3, 2, 60, 0), 30);
        due(x.lines(3, 2, 61, 0), -13);
    }

    private static void linesOfNone() {
        under("Promise 6", "(where none is taken, too: i is not 0 .. how many the row has)");
        AlikePosts x = path(3);
        fill(x, 0, 1, 9, 9, 9);
        for (int i = 0; i <= 3; i++) {
            due(x.lines(0, 1, i, 0), 2);
            due(x.fault(), 0);
        }
        for (int i : new int[] {-1, 4, 5, MAX, MIN}) {
            due(x.lines(0, 1, i, 0), -13);
            due(x.fault(), 3);
        }
        x.sheet(0, 1, 0);
        due(x.lines(0, 1, 0, 0), 2);
        due(x.lines(0, 1, 1, 0), -13);
        due(x.lines(0, 1, -1, 0), -13);
        due(new AlikePosts().lines(0, 0, 0, 0), -11);
    }

    private static void linesIndex() {
        under("Promise 6", "INDEX: not all cells are there");
        AlikePosts x = path(3);
        fill(x, 0, 0, 0, 2, 0, 2, 1);
        due(x.lines(0, 0, 0, 3), -13);
        due(x.lines(0, 0, 4, 1), -13);
        due(x.lines(0, 0, 2, 2), -13);
        due(x.lines(0, 0, -1, 1), -13);
        due(x.lines(0, 0, -2, 2), -13);
        // Numbers of lines whose cells, counted in an int, go round to few or none.
        for (int n : new int[] {1 << 30, (1 << 30) + 1, MAX, MAX - 1, (1 << 30) - 1}) {
            due(x.lines(0, 0, 0, n), -13);
            due(x.lines(0, 0, 5, n), -13);
            due(x.lines(0, 0, MAX, n), -13);
        }
        due(x.told(1), 2);
        due(x.lines(0, 0, 3, 1), 3);
        due(x.lines(0, 0, 0, 2), 5);
        under("Promise 6", "SIZE: n below 0");
        due(x.lines(0, 0, 0, -1), -14);
        due(x.lines(0, 0, 0, MIN), -14);
        due(x.lines(0, 0, 5, -1), -14);
        due(x.lines(0, 0, 5, -2), -14);
        due(x.told(1), 5);
    }

    private static void linesByLanes() {
        under("Promise 6", "LINES come by cells of a SHEET, taken as a row of a LANE");
        for (int lane = 0; lane < 3; lane++) {
            for (int k = 0; k < 4; k++) {
                AlikePosts x = posts(new int[3]);
                fill(x, k, lane, 0, 2);
                for (int other = 0; other < 3; other++) {
                    due(x.lines(k, other, 0, 1), other == lane ? 1 : -12);
                    due(x.fault(), other == lane ? 0 : 2);
                    if (other == lane) {
                        x.clear();
                        posts(x, 3);
                    }
                }
            }
        }
        // A cell is cut as it is put: 256 is post 0 of bytes, and no post of shorts; 255 is -1.
        AlikePosts y = posts(new int[3]);
        fill(y, 0, 0, 256, 1, 255, 1);
        fill(y, 1, 1, 256, 1, 65536 + 2, 1);
        due(y.lines(0, 0, 0, 1), 1);
        due(y.lines(0, 0, 2, 1), -1);
        due(y.lines(1, 1, 0, 1), -1);
        due(y.lines(1, 1, 2, 1), 2);
    }

    private static void posts(AlikePosts x, int n) {
        for (int p = 0; p < n; p++) {
            x.post(0);
        }
    }

    private static void linesRefusedByTheFirst() {
        under("Promise 6", "then UNKNOWN, OUTSIDE, FULL: as line(), of the first one for which it would be so (then none comes)");
        AlikePosts x = hub();
        x.flood(1, 0);
        // Cells 0: good; 2: both are one; 4: no such post; 6: full; 8: good.
        fill(x, 0, 2, 1, 2, 3, 3, 1, 7, 0, 1, 2, 3);
        changesNothing(x, -2, y -> y.lines(0, 2, 0, 5));
        changesNothing(x, -2, y -> y.lines(0, 2, 2, 4));
        changesNothing(x, -1, y -> y.lines(0, 2, 4, 3));
        due(x.lines(0, 2, 6, 2), -4);
        due(x.lines(0, 2, 8, 1), 7);
        AlikePosts z = hub();
        fill(z, 1, 0, 0, 1, 7, 1, 1, 1, -1, 2, 2, 2, 7, 7, 2, -1);
        due(z.lines(1, 0, 0, 3), -4);
        due(z.lines(1, 0, 2, 2), -1);
        due(z.lines(1, 0, 4, 2), -2);
        due(z.lines(1, 0, 6, 1), -1);
        due(z.lines(1, 0, 8, 2), -2);
        due(z.lines(1, 0, 10, 1), -1);
        due(z.lines(1, 0, 12, 1), -1);
        due(z.told(1), 6);
    }

    private static void linesFullWithin() {
        under("Promise 6", "FULL: as line(), of the first one for which it would be so (then none comes)");
        AlikePosts x = posts(0, 0, 0);
        fill(x, 0, 0, 0, 1, 0, 1, 0, 1, 0, 1, 0, 1, 0, 1, 2, 0, 7, 7);
        changesNothing(x, -4, y -> y.lines(0, 0, 0, 7));
        due(x.lines(0, 0, 0, 8), -4);
        due(x.lines(0, 0, 2, 6), 6);
        due(x.lines(0, 0, 0, 1), -4);
        due(x.lines(0, 0, 12, 1), -4);
        AlikePosts y = posts(0, 0, 0);
        fill(y, 0, 0, 1, 0, 0, 1, 1, 0, 0, 1, 1, 0, 0, 1, 0, 2);
        due(y.lines(0, 0, 0, 7), -4);
        due(y.told(1), 0);
        due(y.lines(0, 0, 0, 6), 6);
        due(y.about(1, 1), 6);
    }

    private static void swap() {
        under("Promise 7", "Two PORTS of a POST change numbers (their LINES stay): 1");
        AlikePosts x = hub();
        due(x.swap(0, 0, 5), 1);
        int[] far = {6, 2, 3, 4, 5, 1};
        for (int port = 0; port < 6; port++) {
            due(x.end(0, port, 0), far[port]);
            due(x.end(far[port], 0, 0), 0);
            due(x.end(far[port], 0, 1), port);
        }
        due(x.told(1), 6);
        due(x.swap(0, 5, 0), 1);
        same(seen(x), seen(hub()));
        // Two lines to one post, and at the last of twelve posts.
        AlikePosts y = posts(new int[12]);
        y.line(11, 10);
        y.line(11, 10);
        y.line(10, 11);
        due(y.swap(11, 2, 0), 1);
        for (int port = 0; port < 3; port++) {
            due(y.end(11, port, 1), 2 - port);
            due(y.end(10, port, 1), 2 - port);
        }
    }

    private static void swapOfOne() {
        under("Promise 7", "0: they are one. UNKNOWN.");
        AlikePosts x = hub();
        for (int port = 0; port < 6; port++) {
            int one = port;
            changesNothing(x, 0, y -> y.swap(0, one, one));
        }
        due(x.swap(1, 0, 0), 0);
        due(x.swap(1, 1, 1), -1);
        due(x.swap(1, 0, 1), -1);
        due(x.swap(0, 6, 6), -1);
    }

    private static void end() {
        under("Promise 8", "The POST (what 0), the PORT (1) at the other end of a PORT's LINE.");
        AlikePosts x = posts(new int[12]);
        for (int p = 0; p < 5; p++) {
            x.line(11, p);
        }
        x.line(11, 10);
        due(x.end(11, 5, 0), 10);
        due(x.end(11, 5, 1), 0);
        due(x.end(10, 0, 0), 11);
        due(x.end(10, 0, 1), 5);
        due(x.end(0, 0, 0), 11);
        due(x.end(0, 0, 1), 0);
        due(x.end(10, 1, 0), -1);
        due(x.end(9, 0, 0), -1);
    }

    private static void doubledMost() {
        under("Promise 9", "FULL: there would be more than 12.");
        for (int n = 2; n <= 12; n++) {
            AlikePosts x = path(n);
            due(x.doubled(n - 1, 0), n <= 6 ? 2 * n : -4);
            due(x.told(0), n <= 6 ? 2 * n : n);
            due(x.told(1), n <= 6 ? 2 * n - 2 : n - 1);
        }
        AlikePosts y = path(3);
        due(y.doubled(0, 0), 6);
        due(y.doubled(5, 0), 12);
        due(y.doubled(11, 0), -4);
    }

    private static void about() {
        under("Promise 10", "0 MARK, 1 how many PORTS, 2 RANK AT REST, 3 how many KINDRED");
        AlikePosts x = hub();
        x.mark(0, 9);
        due(x.about(0, 0), 9);
        due(x.about(0, 1), 6);
        due(x.about(0, 2), 6);
        due(x.about(0, 3), 1);
        due(x.about(0, 4), 0);
        AlikePosts y = posts(9, 8, 7, 6, 5, 4, 3, 2, 1, 0);
        for (int p = 0; p < 10; p++) {
            due(y.about(p, 2), 9 - p);
            due(y.about(p, 1), 0);
        }
        due(path(12).about(10, 3), 1);
        due(path(12).about(0, 2), 0);
        due(path(12).about(11, 2), 1);
    }

    private static void aboutFar() {
        under("Promise 10", "4 how far from POST 0, by LINES (NONE: it is not come to)");
        AlikePosts x = path(12);
        AlikePosts ring = evenRing(12);
        for (int p = 0; p < 12; p++) {
            due(x.about(p, 4), p);
            due(ring.about(p, 4), Math.min(p, 12 - p));
        }
        AlikePosts y = posts(0, 0, 0, 0);
        y.line(2, 3);
        due(y.about(0, 4), 0);
        due(y.about(1, 4), -9);
        due(y.about(2, 4), -9);
        due(y.about(3, 4), -9);
        y.line(3, 0);
        due(y.about(2, 4), 2);
        due(y.about(3, 4), 1);
        due(y.about(1, 4), -9);
    }

    private static void together() {
        under("Promise 11", "(without POSTS it does not): 1, 0.");
        AlikePosts x = new AlikePosts();
        due(x.together(), 0);
        x.post(0);
        due(x.together(), 1);
        x.post(0);
        due(x.together(), 0);
        x.clear();
        due(x.together(), 0);
    }

    private static void rankDepths() {
        under("Promise 12", "OUTSIDE: depth is not 0 .. 20.");
        AlikePosts x = path(12);
        x.mark(0, 9);
        for (int depth = 0; depth <= 20; depth++) {
            due(x.rank(0, depth), x.ranks(depth) - 1);
            due(x.rank(11, depth), 0);
        }
        due(x.rank(0, 20), 11);
        for (int depth : beyond(21)) {
            due(x.rank(0, depth), -2);
            due(x.ranks(depth), -2);
        }
    }

    private static void restWithoutPosts() {
        under("Promise 13", "STATE: there are no POSTS.");
        AlikePosts x = new AlikePosts();
        due(x.rest(), -3);
        x.post(0);
        due(x.rest(), 0);
        x.clear();
        due(x.rest(), -3);
    }

    private static void ranksWithoutPosts() {
        under("Promise 14", "How many unlike RANKS there are at a DEPTH (0 without POSTS).");
        AlikePosts x = new AlikePosts();
        for (int depth = 0; depth <= 20; depth++) {
            due(x.ranks(depth), 0);
        }
        due(x.ranks(-1), -2);
        due(x.ranks(21), -2);
        x.post(4);
        due(x.ranks(0), 1);
        due(x.ranks(20), 1);
        x.clear();
        due(x.ranks(0), 0);
        due(x.ranks(20), 0);
        due(path(12).ranks(20), 12);
    }

    private static void apart() {
        under("Promise 15", "The first DEPTH at which two POSTS have unlike RANKS; NONE: they are ALIKE.");
        AlikePosts x = evenRing(12);
        due(x.apart(0, 11), -9);
        x.mark(0, 1);
        due(x.apart(3, 3), -9);
        due(x.apart(0, 11), 0);
        due(x.apart(1, 2), 1);
        due(x.apart(5, 6), 5);
        due(x.apart(6, 5), 5);
        due(x.apart(5, 7), 5);
        due(x.apart(4, 8), 4);
        x.mark(6, 1);
        due(x.apart(0, 6), -9);
        due(x.apart(5, 11), -9);
    }

    private static void chosenNone() {
        under("Promise 16", "THE CHOSEN; NONE: none can be.");
        due(new AlikePosts().chosen(), -9);
        AlikePosts x = posts(3);
        due(x.chosen(), 0);
        x.clear();
        due(x.chosen(), -9);
        // The last one of twelve is chosen by its mark.
        AlikePosts y = path(12);
        for (int p = 0; p < 11; p++) {
            y.mark(p, 1);
        }
        due(y.chosen(), 11);
        // No two alike, but apart; together, but two alike.
        due(posts(0, 1, 2).chosen(), -9);
        AlikePosts z = posts(0, 0, 1, 1);
        z.line(0, 1);
        z.line(2, 3);
        due(z.chosen(), -9);
        AlikePosts w = path(6);
        w.doubled(3, 0);
        w.line(0, 6);
        due(w.together(), 1);
        due(w.chosen(), -9);
    }

    private static void flood() {
        under("Promise 17", "FLOODING: how many WORDS came. UNKNOWN.");
        due(posts(0).flood(0, MIN), 0);
        due(path(2).flood(1, Long.MIN_VALUE), 1);
        due(path(12).flood(11, Long.MAX_VALUE), 11);
        due(packed().flood(11, -1), 61);
        // A net apart: only the half of the post that began.
        AlikePosts x = path(6);
        x.doubled(0, 0);
        due(x.flood(3, 9), 5);
        due(x.flooded(0, 1), -9);
        due(x.flooded(6, 1), 3);
    }

    private static void floodedNone() {
        under("Promise 18", "0 PARENT's PORT (NONE), 1 DEPTH in the tree (the one that began 0; NONE: not come to), 2 LOAD.");
        AlikePosts x = path(12);
        due(x.flood(11, 0), 11);
        for (int p = 0; p < 12; p++) {
            due(x.flooded(p, 0), p == 11 ? -9 : p == 0 ? 0 : 1);
            due(x.flooded(p, 1), 11 - p);
            due(x.flooded(p, 2), p == 11 ? 0 : 1);
        }
        AlikePosts y = posts(0, 0);
        y.flood(1, 0);
        for (int p = 0; p < 2; p++) {
            due(y.flooded(p, 0), -9);
            due(y.flooded(p, 1), p == 1 ? 0 : -9);
            due(y.flooded(p, 2), 0);
        }
        // The greatest port of a parent.
        AlikePosts z = hub();
        z.flood(6, 0);
        due(z.flooded(0, 0), 5);
        due(z.flooded(6, 0), -9);
        due(z.flooded(1, 0), 0);
        due(z.flooded(1, 1), 2);
    }

    private static AlikePosts floodedRing() {
        AlikePosts x = evenRing(3);
        fill(x, 0, 0, 0, 1, 0, 0, 7, 7);
        due(x.flood(0, 0), 4);
        due(x.flooded(0, 1), 0);
        return x;
    }

    private static void gone(AlikePosts x) {
        for (int p = -1; p < 3; p++) {
            due(x.flooded(p, 1), -3);
            due(x.word(p), -3);
        }
        due(x.flooded(0, 3), -3);
    }

    private static void floodedIsGone() {
        under("Promise 18", "it is gone behind any clear(), post(), line(), lines(), swap(), doubled() that is not refused");
        AlikePosts x = floodedRing();
        due(x.clear(), 3);
        gone(x);
        x = floodedRing();
        due(x.post(0), 3);
        gone(x);
        x = floodedRing();
        due(x.line(0, 1), 4);
        gone(x);
        x = floodedRing();
        due(x.lines(0, 0, 0, 1), 4);
        gone(x);
        x = floodedRing();
        due(x.swap(0, 0, 1), 1);
        gone(x);
        x = floodedRing();
        due(x.doubled(0, 1), 6);
        gone(x);
        under("Promise 18", "also one that changes nothing");
        x = floodedRing();
        due(x.lines(0, 0, 6, 0), 3);
        gone(x);
        x = floodedRing();
        due(x.swap(0, 1, 1), 0);
        gone(x);
        under("Promise 18", "STATE: there was none");
        gone(new AlikePosts());
        gone(evenRing(3));
        x = new AlikePosts();
        x.clear();
        gone(x);
    }

    private static void floodedStays() {
        under("Promise 18", "that is not refused and comes to no FAULT");
        AlikePosts x = floodedRing();
        due(x.post(10), -2);
        due(x.line(3, 0), -1);
        due(x.line(1, 1), -2);
        due(x.lines(4, 0, 0, 0), -1);
        due(x.lines(0, 3, 0, 0), -2);
        due(x.lines(0, 1, 0, 0), -12);
        due(x.lines(1, 0, 0, 0), -11);
        due(x.lines(0, 0, 0, -1), -14);
        due(x.lines(0, 0, 0, 4), -13);
        due(x.lines(0, 0, 7, 0), -13);
        due(x.lines(0, 0, 0, 2), -2);
        due(x.lines(0, 0, 4, 1), -1);
        due(x.swap(0, 0, 2), -1);
        due(x.swap(0, 2, 2), -1);
        due(x.doubled(0, 2), -1);
        due(x.mark(0, 4), 0);
        due(x.mark(0, 10), -2);
        due(x.flood(3, 0), -1);
        due(x.sheet(0, 0, 3), 1);
        due(x.lose(0), 1);
        due(x.tell(0), 6);
        due(x.flooded(0, 1), 0);
        due(x.flooded(0, 0), -9);
        due(x.flooded(2, 1) > 0 ? 1 : 0, 1);
        due(x.word(3) >= 0 ? 1 : 0, 1);
        AlikePosts full = packed();
        full.flood(0, 0);
        due(full.post(0), -4);
        due(full.line(0, 1), -4);
        due(full.doubled(0, 0), -4);
        fill(full, 0, 0, 0, 1);
        due(full.lines(0, 0, 0, 1), -4);
        due(full.flooded(0, 1), 0);
    }

    private static void floodedAnew() {
        under("Promise 18", "Of the latest FLOODING");
        AlikePosts x = path(12);
        for (int p = 0; p < 12; p++) {
            due(x.flood(p, p), 11);
            for (int q = 0; q < 12; q++) {
                due(x.flooded(q, 1), Math.abs(p - q));
                due(x.flooded(q, 2), p == q ? 0 : 1);
            }
        }
        // One that brings no word is a flooding, too.
        AlikePosts y = path(2);
        y.post(0);
        due(y.flood(0, 0), 1);
        due(y.flood(2, 0), 0);
        due(y.flooded(1, 1), -9);
        due(y.flooded(1, 2), 0);
        due(y.flooded(2, 1), 0);
        due(y.word(0), -1);
    }

    private static void word() {
        under("Promise 19", "The POST to which the i-th WORD (i from 0 on) came in the latest FLOODING.");
        AlikePosts x = path(12);
        due(x.word(0), -3);
        due(x.flood(11, 3), 11);
        for (int i = 0; i < 11; i++) {
            due(x.word(i), 10 - i);
        }
        due(x.word(11), -1);
        due(x.word(-1), -1);
        due(x.word(MIN), -1);
        due(x.word(MAX), -1);
        // Words of an earlier, longer flooding are gone.
        AlikePosts y = packed();
        due(y.flood(0, 0), 61);
        due(y.word(60) >= 0 ? 1 : 0, 1);
        y.clear();
        y.post(0);
        due(y.word(0), -3);
        y.post(0);
        y.line(0, 1);
        due(y.flood(0, 0), 1);
        due(y.word(0), 1);
        due(y.word(1), -1);
    }

    private static void lots() {
        under("Promise 20", "0 how many rows, 1 how many with one POST alone that has the greatest, 2 how many in which all are alike.");
        AlikePosts one = posts(0);
        AlikePosts twelve = posts(new int[12]);
        for (int k = 1; k <= 6; k++) {
            for (int what = 0; what < 3; what++) {
                due(one.lots(k, what), k);
            }
            due(twelve.lots(k, 2), k);
        }
        due(twelve.lots(1, 0), 1);
        due(twelve.lots(1, 1), 0);
        due(twelve.lots(2, 0), 4096);
        due(twelve.lots(2, 1), 12);
        due(twelve.lots(5, 0), 244140625L);
        due(twelve.lots(6, 0), 2176782336L);
        due(twelve.lots(6, 1), 638419500L);
        under("Promise 20", "STATE: there are no POSTS.");
        twelve.clear();
        for (int k = 1; k <= 6; k++) {
            due(twelve.lots(k, 0), LOST);
        }
    }
}

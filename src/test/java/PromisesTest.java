// What each promise says, one method for each: ordinary inputs, the edges it names, wrong inputs.
public final class PromisesTest extends Checks {
    public static void main(String[] args) {
        constants();
        newObject();
        clear();
        post();
        mark();
        line();
        lines();
        linesFaults();
        swap();
        end();
        doubled();
        doubledKeepsPorts();
        about();
        together();
        rank();
        rankByPorts();
        rest();
        ranks();
        apart();
        chosen();
        flood();
        floodDraws();
        flooded();
        floodedIsGone();
        word();
        lots();
        sheet();
        lose();
        put();
        cell();
        copy();
        copyFaults();
        tell();
        hear();
        as();
        trace();
        fault();
        told();
        finish("every promise is kept");
    }

    private static void constants() {
        under("The public face");
        due(AlikePosts.UNKNOWN, -1);
        due(AlikePosts.OUTSIDE, -2);
        due(AlikePosts.STATE, -3);
        due(AlikePosts.FULL, -4);
        due(AlikePosts.NONE, -9);
        due(AlikePosts.LOST, LOST);
    }

    private static void newObject() {
        under("Promise 1");
        AlikePosts x = new AlikePosts();
        for (int what = 0; what < 5; what++) {
            due(x.told(what), 0);
        }
        for (int k = 0; k < 4; k++) {
            due(x.lose(k), 0);
        }
        due(x.word(0), -3);
        due(x.flooded(0, 0), -3);
        due(x.trace(), 0);
        due(x.fault(), 0);
        posts(1, 2);
        due(x.told(0), 0);
    }

    private static void clear() {
        under("Promise 2");
        AlikePosts x = path(3);
        due(x.clear(), 3);
        due(x.clear(), 0);
        due(x.told(1), 0);
        due(x.rest(), -3);
        due(x.post(4), 0);
        due(x.about(0, 1), 0);
        due(x.about(0, 0), 4);
        x.clear();
        for (int i = 0; i < 12; i++) {
            due(x.post(0), i);
        }
        due(x.clear(), 12);
        AlikePosts y = posts(0);
        y.sheet(0, 0, 1);
        y.put(0, 0, 5);
        y.put(0, 1, 5);
        y.tell(0);
        y.clear();
        due(y.cell(0, 0, 0), 5);
        due(y.trace(), 1);
    }

    private static void post() {
        under("Promise 3");
        AlikePosts x = new AlikePosts();
        due(x.post(-1), -2);
        due(x.post(10), -2);
        due(x.told(0), 0);
        for (int i = 0; i < 12; i++) {
            due(x.post(i % 10), i);
        }
        due(x.post(0), -4);
        due(x.post(10), -2);
        due(x.told(0), 12);
        due(x.about(9, 0), 9);
        due(x.about(11, 0), 1);
    }

    private static void mark() {
        under("Promise 4");
        AlikePosts x = posts(3, 3);
        due(x.mark(0, 9), 3);
        due(x.mark(0, 0), 9);
        due(x.mark(0, 10), -2);
        due(x.mark(0, -1), -2);
        due(x.mark(2, 10), -1);
        due(x.mark(-1, 0), -1);
        due(x.about(0, 0), 0);
        due(x.about(1, 2), 1);
        x.mark(0, 4);
        due(x.about(1, 2), 0);
    }

    private static void line() {
        under("Promise 5");
        AlikePosts x = posts(0, 0, 0);
        due(x.line(0, 3), -1);
        due(x.line(-1, 0), -1);
        due(x.line(3, 3), -1);
        due(x.line(1, 1), -2);
        for (int i = 1; i <= 6; i++) {
            due(x.line(i % 2, 1 - i % 2), i);
        }
        due(x.line(0, 1), -4);
        due(x.line(0, 2), -4);
        due(x.line(2, 0), -4);
        due(x.line(0, 0), -2);
        due(x.told(1), 6);
        due(x.end(0, 5, 0), 1);
        due(x.end(0, 5, 1), 5);
        due(x.about(2, 1), 0);
        AlikePosts y = path(3);
        due(y.end(1, 0, 0), 0);
        due(y.end(1, 1, 0), 2);
        due(y.end(0, 0, 1), 0);
        due(y.end(2, 0, 1), 1);
    }

    private static void lines() {
        under("Promise 6");
        AlikePosts x = posts(0, 0, 0);
        fill(x, 0, 2, 0, 1, 2, 1, 2, 2, 0, 7, 7, -1);
        due(x.lines(0, 2, 0, 2), 2);
        due(x.end(2, 0, 0), 1);
        due(x.end(1, 1, 0), 2);
        due(x.lines(0, 2, 1, 1), 3);
        due(x.end(1, 2, 0), 2);
        due(x.lines(0, 2, 0, 3), -2);
        due(x.lines(0, 2, 2, 2), -2);
        due(x.lines(0, 2, 6, 1), -1);
        due(x.lines(0, 2, 8, 1), -1);
        due(x.told(1), 3);
        due(x.lines(0, 2, 10, 0), 3);
        // 0 and 1 become full by the earlier lines of the same call: then none of them comes.
        AlikePosts y = posts(0, 0);
        fill(y, 3, 1, 0, 1, 0, 1, 0, 1, 0, 1, 0, 1, 0, 1, 0, 1);
        due(y.lines(3, 1, 0, 7), -4);
        due(y.told(1), 0);
        due(y.about(0, 1), 0);
        due(y.lines(3, 1, 2, 6), 6);
        due(y.lines(3, 1, 0, 0), 6);
        // Only the one on the left, only the one on the right becomes full.
        AlikePosts z = posts(new int[8]);
        fill(z, 0, 0, 0, 1, 0, 2, 0, 3, 0, 4, 0, 5, 0, 6, 0, 7);
        fill(z, 1, 0, 1, 0, 2, 0, 3, 0, 4, 0, 5, 0, 6, 0, 7, 0);
        due(z.lines(0, 0, 0, 7), -4);
        due(z.lines(1, 0, 0, 7), -4);
        due(z.told(1), 0);
        due(z.lines(0, 0, 0, 6), 6);
    }

    private static void linesFaults() {
        under("Promise 6");
        AlikePosts x = posts(0, 0);
        due(x.lines(4, 9, 0, 0), -1);
        due(x.lines(-1, 0, 0, 0), -1);
        due(x.lines(0, 3, 0, 0), -2);
        due(x.lines(0, -1, 0, 0), -2);
        due(x.lines(0, 2, -1, -1), -11);
        due(x.fault(), 1);
        fill(x, 0, 0, 0, 1, 1);
        due(x.lines(0, 1, -1, -1), -12);
        due(x.fault(), 2);
        due(x.lines(0, 0, -1, -1), -14);
        due(x.fault(), 4);
        due(x.lines(0, 0, -1, 0), -13);
        due(x.lines(0, 0, 4, 0), -13);
        due(x.lines(0, 0, 2, 1), -13);
        due(x.lines(0, 0, 0, Integer.MAX_VALUE), -13);
        due(x.lines(0, 0, 1, Integer.MIN_VALUE), -14);
        due(x.lines(0, 0, Integer.MAX_VALUE, 1), -13);
        due(x.fault(), 3);
        due(x.lines(0, 0, 1, 1), -2);
        due(x.fault(), 0);
        due(x.told(1), 0);
        due(x.lines(0, 0, 0, 1), 1);
        due(x.fault(), 0);
    }

    private static void swap() {
        under("Promise 7");
        AlikePosts x = path(3);
        due(x.swap(1, 0, 1), 1);
        due(x.end(1, 0, 0), 2);
        due(x.end(1, 1, 0), 0);
        due(x.end(0, 0, 1), 1);
        due(x.end(2, 0, 1), 0);
        due(x.swap(1, 1, 1), 0);
        due(x.swap(1, 2, 2), -1);
        due(x.swap(1, 0, 2), -1);
        due(x.swap(1, 2, 0), -1);
        due(x.swap(1, -1, 0), -1);
        due(x.swap(3, 0, 0), -1);
        due(x.swap(-1, 0, 0), -1);
        AlikePosts y = posts(0, 0);
        y.line(0, 1);
        y.line(0, 1);
        due(y.swap(0, 0, 1), 1);
        due(y.end(0, 0, 1), 1);
        due(y.end(0, 1, 1), 0);
        due(y.end(1, 0, 1), 1);
        due(y.end(1, 1, 1), 0);
    }

    private static void end() {
        under("Promise 8");
        AlikePosts x = path(3);
        due(x.end(2, 0, 0), 1);
        due(x.end(2, 0, 1), 1);
        due(x.end(2, 0, 2), -2);
        due(x.end(2, 0, -1), -2);
        due(x.end(2, 1, 2), -1);
        due(x.end(2, -1, 0), -1);
        due(x.end(3, 0, 0), -1);
        due(x.end(-1, 0, 0), -1);
        due(posts(0).end(0, 0, 0), -1);
    }

    private static void doubled() {
        under("Promise 9");
        AlikePosts x = path(3);
        x.mark(2, 7);
        due(x.doubled(0, 1), -1);
        due(x.doubled(0, -1), -1);
        due(x.doubled(3, 0), -1);
        due(x.doubled(1, 1), 6);
        due(x.told(1), 4);
        due(x.about(5, 0), 7);
        due(x.end(1, 1, 0), 5);
        due(x.end(4, 1, 0), 2);
        due(x.end(2, 0, 0), 4);
        due(x.end(5, 0, 0), 1);
        due(x.end(3, 0, 0), 4);
        due(x.end(0, 0, 0), 1);
        due(x.doubled(0, 0), 12);
        due(x.doubled(0, 0), -4);
        due(x.doubled(0, 1), -1);
        due(x.told(0), 12);
        due(x.told(1), 8);
        AlikePosts y = path(7);
        due(y.doubled(0, 0), -4);
        due(y.told(0), 7);
    }

    private static void doubledKeepsPorts() {
        under("Promise 9");
        AlikePosts x = path(4);
        x.swap(1, 0, 1);
        due(x.doubled(2, 0), 8);
        due(x.end(2, 0, 0), 5);
        due(x.end(2, 0, 1), 0);
        due(x.end(5, 0, 0), 2);
        due(x.end(5, 0, 1), 0);
        due(x.end(6, 0, 0), 1);
        due(x.end(1, 0, 0), 6);
        due(x.end(5, 1, 0), 4);
        // What is seen of the net stays as it was, for both halves.
        AlikePosts before = path(4);
        before.swap(1, 0, 1);
        for (int p = 0; p < 4; p++) {
            due(x.about(p, 2), before.about(p, 2));
            due(x.about(4 + p, 2), before.about(p, 2));
            due(x.about(p, 3), 2 * before.about(p, 3));
        }
    }

    private static void about() {
        under("Promise 10");
        AlikePosts x = path(4);
        x.post(8);
        int[] far = {0, 1, 2, 3, -9};
        int[] ports = {1, 2, 2, 1, 0};
        for (int p = 0; p < 5; p++) {
            due(x.about(p, 0), p == 4 ? 8 : 0);
            due(x.about(p, 1), ports[p]);
            due(x.about(p, 3), 1);
            due(x.about(p, 4), far[p]);
        }
        due(x.about(4, 2), 4);
        due(x.about(0, 2), 0);
        due(x.about(3, 2), 1);
        due(x.about(0, 5), -2);
        due(x.about(0, -1), -2);
        due(x.about(5, 5), -1);
        due(x.about(-1, 0), -1);
        due(evenRing(5).about(3, 3), 5);
        due(evenRing(7).about(4, 4), 3);
    }

    private static void together() {
        under("Promise 11");
        AlikePosts x = new AlikePosts();
        due(x.together(), 0);
        x.post(0);
        due(x.together(), 1);
        x.post(0);
        due(x.together(), 0);
        x.line(1, 0);
        due(x.together(), 1);
        x.doubled(0, 0);
        due(x.together(), 0);
        due(path(12).together(), 1);
    }

    private static void rank() {
        under("Promise 12");
        AlikePosts x = posts(2, 1, 1, 2, 0);
        x.line(0, 1);
        // By mark, then by how many ports: post 4 (0, 0), 2 (1, 0), 1 (1, 1), 3 (2, 0), 0 (2, 1).
        int[] first = {4, 2, 1, 3, 0};
        for (int p = 0; p < 5; p++) {
            due(x.rank(p, 0), first[p]);
            due(x.rank(p, 20), first[p]);
        }
        due(x.rank(0, 21), -2);
        due(x.rank(0, -1), -2);
        due(x.rank(5, 21), -1);
        due(x.rank(-1, 0), -1);
        // Like ones have like ranks, and the next rank is 1 more.
        AlikePosts y = posts(3, 0, 3, 0, 5);
        due(y.rank(0, 0), 1);
        due(y.rank(1, 0), 0);
        due(y.rank(2, 0), 1);
        due(y.rank(3, 0), 0);
        due(y.rank(4, 0), 2);
    }

    private static void rankByPorts() {
        under("Promise 12");
        // The number of the far port comes ahead of the far post's rank.
        AlikePosts x = path(4);
        due(x.rank(0, 0), 0);
        due(x.rank(3, 0), 0);
        due(x.rank(1, 0), 1);
        due(x.rank(2, 0), 1);
        due(x.rank(0, 1), 0);
        due(x.rank(3, 1), 1);
        due(x.rank(1, 1), 2);
        due(x.rank(2, 1), 3);
        // With like far ports, the far rank decides.
        AlikePosts y = posts(0, 5, 0, 4);
        y.line(0, 1);
        y.line(2, 3);
        due(y.rank(0, 0), 0);
        due(y.rank(2, 0), 0);
        due(y.rank(2, 1), 0);
        due(y.rank(0, 1), 1);
        // Port 0 decides ahead of port 1.
        AlikePosts z = posts(0, 0, 1, 2, 3, 1);
        z.line(0, 2);
        z.line(0, 4);
        z.line(1, 3);
        z.line(1, 5);
        due(z.rank(0, 0), 0);
        due(z.rank(1, 0), 0);
        due(z.rank(0, 1), 0);
        due(z.rank(1, 1), 1);
        z.swap(0, 0, 1);
        z.swap(1, 0, 1);
        due(z.rank(0, 1), 1);
        due(z.rank(1, 1), 0);
    }

    private static void rest() {
        under("Promise 13");
        due(new AlikePosts().rest(), -3);
        due(posts(0).rest(), 0);
        due(posts(0, 0, 1, 1).rest(), 0);
        due(path(3).rest(), 1);
        due(path(4).rest(), 1);
        due(evenRing(12).rest(), 0);
        AlikePosts x = evenRing(9);
        x.mark(4, 1);
        due(x.rest() > 1 ? 1 : 0, 1);
        due(x.ranks(x.rest()), 9);
        due(x.ranks(x.rest() - 1) < 9 ? 1 : 0, 1);
        // Only after clear() is there nothing to rest again.
        x.clear();
        due(x.rest(), -3);
    }

    private static void ranks() {
        under("Promise 14");
        AlikePosts x = new AlikePosts();
        due(x.ranks(0), 0);
        due(x.ranks(20), 0);
        due(x.ranks(21), -2);
        due(x.ranks(-1), -2);
        AlikePosts y = path(4);
        due(y.ranks(0), 2);
        due(y.ranks(1), 4);
        due(y.ranks(20), 4);
        due(evenRing(6).ranks(20), 1);
    }

    private static void apart() {
        under("Promise 15");
        AlikePosts x = path(4);
        due(x.apart(0, 1), 0);
        due(x.apart(0, 3), 1);
        due(x.apart(1, 2), 1);
        due(x.apart(2, 2), -9);
        due(x.apart(4, 0), -1);
        due(x.apart(0, 4), -1);
        due(x.apart(-1, 4), -1);
        due(evenRing(8).apart(1, 6), -9);
        // Of a ring with one mark, the two posts behind it are told apart one step later each.
        AlikePosts y = evenRing(8);
        y.mark(0, 1);
        due(y.apart(0, 3), 0);
        due(y.apart(1, 3), 1);
        due(y.apart(3, 4), 3);
    }

    private static void chosen() {
        under("Promise 16");
        due(new AlikePosts().chosen(), -9);
        due(posts(5).chosen(), 0);
        due(posts(5, 4).chosen(), -9);
        AlikePosts x = posts(5, 4);
        x.line(0, 1);
        due(x.chosen(), 1);
        x.mark(1, 5);
        due(x.chosen(), -9);
        due(evenRing(5).chosen(), -9);
        AlikePosts y = evenRing(5);
        y.mark(3, 1);
        due(y.chosen() >= 0 ? 1 : 0, 1);
        due(y.about(y.chosen(), 2), 0);
        y.post(0);
        due(y.chosen(), -9);
    }

    private static void flood() {
        under("Promise 17");
        AlikePosts x = path(5);
        due(x.flood(5, 1), -1);
        due(x.flood(-1, 1), -1);
        due(x.flood(0, 1), 4);
        due(x.flood(2, Long.MIN_VALUE), 4);
        due(x.flood(2, Long.MAX_VALUE), 4);
        due(posts(0).flood(0, 7), 0);
        // Each line outside the tree is gone over twice, each line of it once.
        due(evenRing(6).flood(0, 3), 7);
        AlikePosts y = posts(new int[12]);
        for (int p = 0; p < 12; p++) {
            for (int step = 1; step <= 3; step++) {
                y.line(p, (p + step) % 12);
            }
        }
        due(y.told(1), 36);
        due(y.flood(4, -1), 72 - 11);
    }

    private static int number(long draw, int n) {
        return (int) ((draw & 0x7fffffffL) / 4096 % n);
    }

    private static void floodDraws() {
        under("Promise 17");
        // A star: the words by ports 0 .. 5 come in the order of the draws.
        for (long seed = -40; seed < 40; seed++) {
            AlikePosts x = posts(new int[7]);
            java.util.List<Integer> waiting = new java.util.ArrayList<>();
            for (int p = 1; p < 7; p++) {
                x.line(0, p);
                waiting.add(p);
            }
            due(x.flood(0, seed * 1234567891011L), 6);
            long draw = seed * 1234567891011L;
            for (int i = 0; i < 6; i++) {
                draw = draw * 6364136223846793005L + 1442695040888963407L;
                due(x.word(i), waiting.remove(number(draw, waiting.size())));
            }
        }
    }

    private static void flooded() {
        under("Promise 18");
        AlikePosts x = path(4);
        x.post(0);
        due(x.flooded(0, 0), -3);
        due(x.flooded(9, 9), -3);
        x.flood(1, 99);
        int[] parents = {0, -9, 0, 0, -9};
        int[] depths = {1, 0, 1, 2, -9};
        int[] loads = {1, 0, 1, 1, 0};
        for (int p = 0; p < 5; p++) {
            due(x.flooded(p, 0), parents[p]);
            due(x.flooded(p, 1), depths[p]);
            due(x.flooded(p, 2), loads[p]);
        }
        due(x.flooded(5, 3), -1);
        due(x.flooded(-1, 0), -1);
        due(x.flooded(0, 3), -2);
        due(x.flooded(0, -1), -2);
        // Two lines between two: the second word is a load, and the parent's port stays.
        AlikePosts y = posts(0, 0);
        y.line(0, 1);
        y.line(0, 1);
        due(y.flood(0, 4), 3);
        due(y.flooded(0, 2), 1);
        due(y.flooded(1, 2), 2);
        due(y.flooded(0, 0), -9);
        due(y.flooded(0, 1), 0);
        due(y.flooded(1, 1), 1);
        due(y.flooded(2, 0), -1);
        // Nothing of an earlier flooding is left.
        y.flood(1, 4);
        due(y.flooded(0, 2), 2);
        due(y.flooded(1, 2), 1);
        due(y.flooded(1, 0), -9);
        due(y.flooded(1, 1), 0);
        x.flood(4, 99);
        due(x.flooded(0, 0), -9);
        due(x.flooded(0, 1), -9);
        due(x.flooded(0, 2), 0);
    }

    private static AlikePosts justFlooded() {
        AlikePosts x = path(6);
        x.sheet(0, 0, 2);
        x.put(0, 1, 1);
        x.flood(0, 1);
        return x;
    }

    private static void floodedIsGone() {
        under("Promise 18");
        AlikePosts x = justFlooded();
        x.post(10);
        x.line(0, 0);
        x.lines(0, 0, 3, 0);
        x.lines(1, 0, 0, 0);
        x.lines(0, 0, 0, -1);
        x.lines(0, 1, 0, 0);
        x.lines(4, 0, 0, 0);
        x.swap(0, 0, 1);
        x.doubled(0, 1);
        x.flood(6, 1);
        x.mark(0, 5);
        x.mark(0, 10);
        x.lose(0);
        x.tell(0);
        due(x.flooded(5, 1), 5);
        due(x.word(0), 1);
        x.line(0, 5);
        due(x.flooded(5, 1), -3);
        AlikePosts y = justFlooded();
        y.clear();
        due(y.word(0), -3);
        y = justFlooded();
        y.post(0);
        due(y.word(0), -3);
        y = justFlooded();
        y.lines(0, 0, 2, 0);
        due(y.word(0), -3);
        y = justFlooded();
        y.swap(3, 1, 1);
        due(y.word(0), -3);
        y = justFlooded();
        y.doubled(0, 0);
        due(y.flooded(0, 0), -3);
        y.doubled(0, 0);
        y.flood(0, 1);
        y.doubled(0, 0);
        due(y.flooded(0, 1), 0);
        AlikePosts z = new AlikePosts();
        z.clear();
        due(z.word(-1), -3);
    }

    private static void word() {
        under("Promise 19");
        AlikePosts x = path(4);
        due(x.word(0), -3);
        due(x.word(-1), -3);
        x.flood(3, 8);
        due(x.word(0), 2);
        due(x.word(1), 1);
        due(x.word(2), 0);
        due(x.word(3), -1);
        due(x.word(-1), -1);
        x.flood(0, 8);
        due(x.word(0), 1);
        due(x.word(2), 3);
        AlikePosts y = posts(0);
        y.flood(0, 0);
        due(y.word(0), -1);
    }

    private static void lots() {
        under("Promise 20");
        AlikePosts x = new AlikePosts();
        due(x.lots(2, 0), LOST);
        due(x.lots(0, 0), LOST);
        x.post(0);
        due(x.lots(1, 1), 1);
        due(x.lots(5, 1), 5);
        x.post(3);
        due(x.lots(1, 0), 1);
        due(x.lots(1, 1), 0);
        due(x.lots(1, 2), 1);
        due(x.lots(2, 0), 4);
        due(x.lots(2, 1), 2);
        due(x.lots(2, 2), 2);
        x.post(3);
        due(x.lots(3, 0), 27);
        due(x.lots(3, 1), 15);
        due(x.lots(3, 2), 3);
        due(x.lots(0, 0), LOST);
        due(x.lots(-1, 0), LOST);
        due(x.lots(7, 0), LOST);
        due(x.lots(3, 3), LOST);
        due(x.lots(3, -1), LOST);
        AlikePosts y = posts(new int[12]);
        due(y.lots(6, 0), 2176782336L);
        due(y.lots(6, 1), 12L * (48828125L + 4194304L + 177147L + 2048L + 1L));
        due(y.lots(6, 2), 6);
    }

    private static void sheet() {
        under("Promise 21");
        AlikePosts x = new AlikePosts();
        due(x.sheet(4, 9, -1), -1);
        due(x.sheet(-1, 0, 1), -1);
        due(x.sheet(0, 3, -1), -2);
        due(x.sheet(0, -1, -1), -2);
        due(x.sheet(0, 0, 61), -2);
        due(x.sheet(0, 0, -1), -14);
        due(x.fault(), 4);
        due(x.lose(0), 0);
        due(x.sheet(0, 2, 60), 1);
        due(x.fault(), 0);
        due(x.put(0, 59, 9), 1);
        due(x.put(0, 60, 9), -13);
        due(x.sheet(0, 0, 61), -2);
        due(x.sheet(0, 0, Integer.MIN_VALUE), -14);
        due(x.cell(0, 59, 2), 9);
        due(x.sheet(0, 2, 60), 1);
        due(x.cell(0, 59, 2), 0);
        due(x.sheet(3, 1, 0), 1);
        due(x.put(3, 0, 1), -13);
        due(x.lose(3), 1);
    }

    private static void lose() {
        under("Promise 22");
        AlikePosts x = new AlikePosts();
        due(x.lose(0), 0);
        x.sheet(0, 1, 0);
        due(x.lose(0), 1);
        due(x.lose(0), 0);
        due(x.lose(4), -1);
        due(x.lose(-1), -1);
        due(x.put(0, 0, 0), -11);
        x.lose(0);
        due(x.fault(), 1);
    }

    private static void put() {
        under("Promise 23");
        AlikePosts x = new AlikePosts();
        due(x.put(4, 0, 0), -1);
        due(x.put(-1, 0, 0), -1);
        due(x.put(0, -1, 0), -11);
        due(x.fault(), 1);
        int[] given = {300, 70001, -129, 32768, 128, Integer.MAX_VALUE, Integer.MIN_VALUE};
        for (int lane = 0; lane < 3; lane++) {
            x.sheet(lane, lane, 1);
            for (int v : given) {
                due(x.put(lane, 0, v), 1);
                due(x.cell(lane, 0, lane), lane == 0 ? (byte) v : lane == 1 ? (short) v : v);
            }
            due(x.put(lane, 1, 0), -13);
            due(x.put(lane, -1, 0), -13);
            due(x.fault(), 3);
        }
        due(x.put(0, 0, 0), 1);
        due(x.fault(), 0);
    }

    private static void cell() {
        under("Promise 24");
        AlikePosts x = new AlikePosts();
        due(x.cell(0, 0, 0), LOST);
        due(x.fault(), 1);
        due(x.cell(4, 0, 0), LOST);
        due(x.fault(), 0);
        due(x.cell(-1, 0, 0), LOST);
        due(x.fault(), 0);
        x.sheet(1, 1, 2);
        x.put(1, 1, -5);
        due(x.cell(1, 1, 1), -5);
        due(x.cell(1, 0, 1), 0);
        due(x.cell(1, 2, 1), LOST);
        due(x.fault(), 3);
        due(x.cell(1, -1, 1), LOST);
        due(x.fault(), 3);
        due(x.cell(1, -1, 2), LOST);
        due(x.fault(), 2);
        due(x.cell(1, 0, 0), LOST);
        due(x.fault(), 2);
        due(x.cell(1, 0, 3), LOST);
        due(x.fault(), 0);
        x.cell(1, 5, 1);
        due(x.cell(1, 0, -1), LOST);
        due(x.fault(), 0);
        due(x.cell(2, -1, 2), LOST);
        due(x.fault(), 1);
    }

    private static void copy() {
        under("Promise 25");
        AlikePosts x = new AlikePosts();
        fill(x, 0, 0, 1, 2, 3, 4, 5);
        fill(x, 1, 0, 9, 9, 9);
        due(x.copy(0, 1, 1, 0, 2), 2);
        cells(x, 1, 0, 2, 3, 9);
        due(x.copy(0, 0, 0, 1, 4), 4);
        cells(x, 0, 0, 1, 1, 2, 3, 4);
        due(x.copy(0, 1, 0, 0, 4), 4);
        cells(x, 0, 0, 1, 2, 3, 4, 4);
        due(x.copy(0, 5, 1, 3, 0), 0);
        due(x.copy(0, 0, 1, 0, 3), 3);
        cells(x, 1, 0, 1, 2, 3);
        due(x.fault(), 0);
        // The copy is one of cells, not of the row.
        x.put(0, 0, 8);
        cells(x, 1, 0, 1, 2, 3);
    }

    private static void copyFaults() {
        under("Promise 25");
        AlikePosts x = new AlikePosts();
        due(x.copy(4, 0, 0, 0, 0), -1);
        due(x.copy(0, 0, 4, 0, 0), -1);
        due(x.copy(-1, 0, -1, 0, 0), -1);
        due(x.copy(0, -1, 1, 0, 0), -11);
        fill(x, 0, 0, 1, 2, 3);
        due(x.copy(0, 0, 1, 0, 9), -11);
        due(x.copy(1, 0, 0, 0, 9), -11);
        due(x.fault(), 1);
        fill(x, 1, 1, 7, 7);
        due(x.copy(0, -1, 1, 0, 0), -12);
        due(x.fault(), 2);
        fill(x, 1, 0, 7, 7);
        int big = Integer.MAX_VALUE;
        int[][] beyond = {{-1, 0, 1}, {0, -1, 1}, {0, 0, -1}, {0, 0, 3}, {2, 0, 2}, {0, 1, 2}, {4, 0, 0},
            {0, 3, 0}, {big, 0, big}, {0, big, 1}, {1, 1, big}, {-1, -1, -1}, {1, 1, Integer.MIN_VALUE}};
        for (int[] b : beyond) {
            due(x.copy(0, b[0], 1, b[1], b[2]), -13);
            due(x.fault(), 3);
        }
        cells(x, 1, 0, 7, 7);
        due(x.copy(0, 0, 9, 0, 1), -1);
        due(x.fault(), 0);
    }

    private static void tell() {
        under("Promise 26");
        AlikePosts x = posts(4, 5, 6, 0);
        x.line(0, 1);
        x.line(1, 2);
        due(x.tell(3), 0);
        due(x.trace(), 1);
        due(x.tell(1), 7);
        due(x.trace(), (31 + 2) * 31 + 1);
        due(x.tell(0), -5);
        due(x.trace(), (1024 * 31 + 3) * 31 + 1);
        due(x.tell(2), -7);
        int was = x.trace();
        due(x.tell(4), -1);
        due(x.tell(-1), -1);
        due(x.trace(), was);
    }

    private static void hear() {
        under("Promise 27");
        AlikePosts x = path(3);
        x.post(0);
        due(x.hear(1), 1);
        due(x.trace(), 4);
        due(x.hear(0), 70);
        due(x.trace(), 4 * 31 + 5);
        due(x.hear(3), 3);
        due(x.trace(), (4 * 31 + 5) * 31 + 4);
        int was = x.trace();
        due(x.hear(4), -1);
        due(x.hear(-1), -1);
        due(x.trace(), was);
    }

    private static void as() {
        under("Promise 28");
        AlikePosts x = path(3);
        x.post(0);
        int[][] want = {{1, 1, 1}, {1, 1, -12}, {1, 1, 1}, {1, -12, -12}};
        for (int p = 0; p < 4; p++) {
            for (int kind = 0; kind < 3; kind++) {
                due(x.as(p, kind), want[p][kind]);
                due(x.fault(), want[p][kind] == 1 ? 0 : 2);
            }
        }
        due(x.as(3, 3), -2);
        due(x.fault(), 0);
        due(x.as(3, -1), -2);
        due(x.as(3, 2), -12);
        due(x.as(4, 3), -1);
        due(x.fault(), 0);
        due(x.as(-1, 0), -1);
        due(x.trace(), 0);
    }

    private static void trace() {
        under("Promise 29");
        AlikePosts x = posts(0);
        int want = 0;
        for (int i = 0; i < 40; i++) {
            x.tell(0);
            x.hear(0);
            want = (want * 31 + 1) * 31 + 4;
            due(x.trace(), want);
        }
        due(new AlikePosts().trace(), 0);
    }

    private static void fault() {
        under("Promise 30");
        AlikePosts x = posts(0, 0);
        due(x.fault(), 0);
        x.put(0, 0, 0);
        due(x.fault(), 1);
        // Calls that name no fault leave it.
        x.clear();
        x.post(10);
        x.post(0);
        x.tell(0);
        x.lose(0);
        x.lose(9);
        x.line(0, 0);
        due(x.fault(), 1);
        due(x.fault(), 1);
        x.sheet(9, 0, 0);
        due(x.fault(), 0);
        x.as(0, 2);
        due(x.fault(), 2);
        x.put(9, 0, 0);
        due(x.fault(), 0);
        x.as(0, 2);
        x.copy(9, 0, 0, 0, 0);
        due(x.fault(), 0);
        x.as(0, 2);
        x.lines(9, 0, 0, 0);
        due(x.fault(), 0);
        x.as(0, 2);
        x.cell(0, 0, 9);
        due(x.fault(), 0);
        x.as(0, 2);
        x.sheet(0, 0, 61);
        due(x.fault(), 0);
    }

    private static void told() {
        under("Promise 31");
        AlikePosts x = path(5);
        x.post(0);
        x.post(0);
        x.line(5, 6);
        due(x.told(0), 7);
        due(x.told(1), 5);
        due(x.told(3), 4);
        due(x.told(4), 5);
        due(x.told(5), -2);
        due(x.told(-1), -2);
        due(x.told(2), 6);
        due(evenRing(7).told(2), 1);
        due(evenRing(7).told(3), 0);
        due(new AlikePosts().told(-1), -2);
    }
}

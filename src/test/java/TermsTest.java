import java.math.BigInteger;
import java.util.ArrayList;
import java.util.List;

// The edges that the head and the Terms of the document name: nets, ranks, floods, lots, sheets, kinds.
public final class TermsTest extends Checks {
    public static void main(String[] args) {
        lastCall();
        postsAtMost();
        marks();
        portsAtMost();
        linesBetweenTwo();
        hangsTogether();
        ranksAtDepthZero();
        markGoesAheadOfPorts();
        rankGoesAheadOfPorts();
        portsFromZeroOn();
        farPortGoesAheadOfFarRank();
        greatestFarPortAndRank();
        farPortAheadOfGreatestRank();
        rankOneDepthBefore();
        atRest();
        atRestSooner();
        alike();
        chosen();
        doubledHalves();
        doubledChangesOneLineAlone();
        doubledByEitherEnd();
        drawGoesRound();
        drawsByPostThenByPort();
        parentOfNone();
        oneWordByEachPort();
        lots();
        sheetsAtFirst();
        cutToLane();
        kinds();
        traceWraps();
        bodies();
        finish("the Terms are kept");
    }

    private static void lastCall() {
        under("What it is", "at most 512 calls after it has been made");
        AlikePosts x = packed();
        int want = 0;
        for (int call = 49; call < 512; call++) {
            due(x.hear(call % 12), call % 12);
            want = 31 * want + 4;
        }
        due(x.trace(), want);
        AlikePosts y = packed();
        for (int call = 49; call < 512; call++) {
            due(y.flood(call % 12, call), 61);
        }
        due(y.flooded(511 % 12, 1), 0);
    }

    private static void postsAtMost() {
        under("Terms", "POSTS, 12 at most, each numbered by how many there are ahead of it (the first one 0");
        AlikePosts x = new AlikePosts();
        for (int p = 0; p < 12; p++) {
            due(x.post(0), p);
            due(x.told(0), p + 1);
        }
        due(x.post(0), -4);
        due(x.told(0), 12);
    }

    private static void marks() {
        under("Terms", "each with a MARK (0 .. 9)");
        for (int mark = 0; mark <= 9; mark++) {
            AlikePosts x = new AlikePosts();
            due(x.post(mark), 0);
            due(x.about(0, 0), mark);
        }
        for (int mark : beyond(10)) {
            AlikePosts x = new AlikePosts();
            due(x.post(mark), -2);
            due(x.told(0), 0);
        }
    }

    private static void portsAtMost() {
        under("Terms", "PORTS 0 .. 5 at most, numbered as LINES come to them");
        AlikePosts x = posts(new int[8]);
        int[] met = {3, 1, 6, 2, 5, 4};
        for (int port = 0; port < 6; port++) {
            due(port % 2 == 0 ? x.line(0, met[port]) : x.line(met[port], 0), port + 1);
            due(x.about(0, 1), port + 1);
        }
        for (int port = 0; port < 6; port++) {
            due(x.end(0, port, 0), met[port]);
            due(x.end(0, port, 1), 0);
            due(x.end(met[port], 0, 1), port);
        }
        due(x.end(0, 6, 0), -1);
        due(x.line(0, 7), -4);
        due(x.line(7, 0), -4);
        due(x.about(0, 1), 6);
    }

    private static void linesBetweenTwo() {
        under("Terms", "(more than one between two may be)");
        AlikePosts x = posts(0, 0);
        for (int i = 1; i <= 6; i++) {
            due(i % 2 == 0 ? x.line(0, 1) : x.line(1, 0), i);
        }
        for (int port = 0; port < 6; port++) {
            due(x.end(0, port, 0), 1);
            due(x.end(0, port, 1), port);
        }
        due(x.about(1, 4), 1);
        due(x.rest(), 0);
        due(x.about(0, 3), 2);
    }

    private static void hangsTogether() {
        under("Terms", "The NET HANGS TOGETHER, if each POST is come to from POST 0 by LINES");
        AlikePosts x = path(12);
        due(x.together(), 1);
        // The last post apart, the first post apart, two halves.
        AlikePosts last = path(11);
        last.post(0);
        due(last.together(), 0);
        AlikePosts first = posts(new int[12]);
        for (int p = 1; p < 11; p++) {
            first.line(p, p + 1);
        }
        due(first.together(), 0);
        due(first.told(4), 1);
        first.line(11, 0);
        due(first.together(), 1);
        AlikePosts halves = path(6);
        halves.doubled(2, 1);
        due(halves.together(), 0);
        due(halves.told(4), 6);
    }

    private static void ranksAtDepthZero() {
        under("Terms", "RANK 0 is that of the first ones, like ones have like RANKS, the next ones 1 more");
        AlikePosts x = posts(9, 0, 9, 4, 0, 4);
        int[] want = {2, 0, 2, 1, 0, 1};
        for (int p = 0; p < 6; p++) {
            due(x.rank(p, 0), want[p]);
        }
        // All alike; and twelve that are all unlike, from the last one to the first.
        AlikePosts alike = posts(new int[12]);
        AlikePosts unlike = posts(9, 8, 7, 6, 5, 4, 3, 2, 1, 1, 0, 0);
        unlike.line(8, 10);
        for (int p = 0; p < 12; p++) {
            due(alike.rank(p, 0), 0);
            due(unlike.rank(p, 0), p == 8 ? 3 : p == 9 ? 2 : p == 10 ? 1 : 11 - p);
        }
    }

    private static void markGoesAheadOfPorts() {
        under("Terms", "POSTS are in order by MARK, then by how many PORTS they have");
        // Post 0: the mark below with six ports, post 1: the mark above with none.
        AlikePosts x = hub();
        x.mark(0, 1);
        x.post(2);
        due(x.rank(0, 0), 1);
        due(x.rank(7, 0), 2);
        due(x.rank(1, 0), 0);
        // One mark, and 0 .. 6 ports.
        AlikePosts y = posts(new int[12]);
        for (int p = 1; p < 6; p++) {
            for (int line = 0; line < p; line++) {
                y.line(p, p + 5);
            }
        }
        for (int line = 0; line < 6; line++) {
            y.line(11, 10 - line);
        }
        due(y.rank(0, 0), 0);
        due(y.about(10, 1), 6);
        due(y.rank(10, 0), 6);
        due(y.rank(11, 0), 6);
        due(y.about(1, 1), 1);
        due(y.rank(1, 0), 1);
        due(y.about(6, 1), 2);
        due(y.rank(6, 0), 2);
        due(y.rank(9, 0), 5);
    }

    private static void rankGoesAheadOfPorts() {
        under("Terms", "they are in order by their RANK at DEPTH k, then by their PORTS");
        // Post 1 is the first by its far port, but post 0 by its mark.
        AlikePosts x = posts(0, 1, 5, 5, 5);
        x.line(2, 3);
        x.line(2, 0);
        x.line(1, 4);
        due(x.end(0, 0, 1), 1);
        due(x.end(1, 0, 1), 0);
        for (int depth = 0; depth < 4; depth++) {
            due(x.rank(0, depth), 0);
            due(x.rank(1, depth), 1);
        }
    }

    private static void portsFromZeroOn() {
        under("Terms", "then by their PORTS, from 0 on");
        // By port 0 post 1 goes ahead (a mark of 2, not 3), by port 1 it would be post 0 (1, not 3).
        AlikePosts x = posts(0, 0, 3, 2, 1, 3);
        x.line(0, 2);
        x.line(0, 4);
        x.line(1, 3);
        x.line(1, 5);
        due(x.rank(0, 0), x.rank(1, 0));
        due(x.rank(0, 1) - x.rank(1, 1), 1);
        // Five ports lead to alike posts, and the sixth alone is unlike.
        AlikePosts z = posts(0, 0, 7, 7, 7, 7, 7, 7, 7, 7, 9, 8);
        int[] far = {2, 3, 4, 5, 2};
        int[] other = {6, 7, 8, 9, 6};
        for (int port = 0; port < 5; port++) {
            z.line(0, far[port]);
            z.line(1, other[port]);
        }
        z.line(0, 10);
        z.line(1, 11);
        due(z.about(0, 1), 6);
        due(z.apart(0, 1), 1);
        due(z.rank(1, 1), 0);
        due(z.rank(0, 1), 1);
    }

    private static void farPortGoesAheadOfFarRank() {
        under("Terms", "by the number of the PORT at the other end of its LINE, then by the RANK at DEPTH k of the POST there");
        // Post 0 meets port 1 of a post with mark 1, post 1 meets port 0 of a post with mark 2.
        AlikePosts x = posts(0, 0, 1, 2, 9, 9);
        x.line(4, 2);
        x.line(0, 2);
        x.line(1, 3);
        x.line(3, 5);
        due(x.rank(0, 0), x.rank(1, 0));
        due(x.rank(1, 1), 0);
        due(x.rank(0, 1), 1);
        // Like far ports: the post with mark 1 goes ahead.
        x.swap(2, 0, 1);
        due(x.rank(0, 1), 0);
        due(x.rank(1, 1), 1);
    }

    private static void greatestFarPortAndRank() {
        under("Terms", "by the number of the PORT at the other end of its LINE");
        // Ports 0 .. 5 of the hub are all that its ends see: six unlike ranks behind it.
        AlikePosts x = hub();
        due(x.rest(), 1);
        for (int p = 1; p < 7; p++) {
            due(x.rank(p, 0), 0);
            due(x.rank(p, 1), p - 1);
        }
        due(x.rank(0, 1), 6);
        // Far ranks 0 .. 11 at the next depth: a row of twelve with as many marks as can be.
        AlikePosts y = posts(0, 0, 9, 9, 8, 7, 6, 5, 4, 3, 2, 1);
        y.line(0, 3);
        y.line(1, 2);
        due(y.ranks(0), 10);
        due(y.rank(0, 1), y.rank(1, 1));
        y.line(2, 4);
        due(y.rank(2, 0), 10);
        due(y.rank(3, 0), 9);
        due(y.rank(0, 1), 0);
        due(y.rank(1, 1), 1);
    }

    private static void farPortAheadOfGreatestRank() {
        under("Terms", "by the number of the PORT at the other end of its LINE, then by the RANK at DEPTH k of the POST there");
        // Post 0 meets port 1 of the post of rank 1 or 2, post 1 meets port 0 of the post of rank 10.
        for (int mark = 1; mark <= 2; mark++) {
            AlikePosts x = posts(0, 0, mark, 9, 2, 3, 4, 5, 6, 7, 8, 9);
            x.mark(4, 3 - mark);
            x.line(2, 4);
            x.line(2, 0);
            x.line(1, 3);
            due(x.rank(2, 0), mark);
            due(x.rank(3, 0), 10);
            due(x.rank(0, 0), x.rank(1, 0));
            due(x.rank(1, 1), 0);
            due(x.rank(0, 1), 1);
        }
    }

    private static void rankOneDepthBefore() {
        under("Terms", "the RANK at DEPTH k of the POST there");
        // A mark at one place of a ring is seen one step farther at each depth, and not ahead of it.
        AlikePosts x = evenRing(12);
        x.mark(0, 1);
        for (int far = 1; far <= 5; far++) {
            due(x.apart(far, 6), far == 6 ? -9 : far);
            due(x.apart(12 - far, 6), far);
            due(x.rank(far, far - 1), x.rank(6, far - 1));
        }
        due(x.apart(0, 6), 0);
        due(x.rest(), 5);
        due(x.ranks(4), 10);
        due(x.ranks(5), 12);
    }

    private static void atRest() {
        under("Terms", "there they are AT REST; that DEPTH is the first such");
        due(posts(0).rest(), 0);
        due(posts(new int[12]).rest(), 0);
        due(packed().rest() > 0 ? 1 : 0, 1);
        due(hub().rest(), 1);
        AlikePosts x = evenRing(7);
        x.mark(3, 9);
        due(x.rest(), 3);
        due(x.ranks(2), 6);
        for (int depth = 3; depth <= 20; depth++) {
            due(x.ranks(depth), 7);
            for (int p = 0; p < 7; p++) {
                due(x.rank(p, depth), x.about(p, 2));
            }
        }
    }

    private static void atRestSooner() {
        under("Terms", "At some DEPTH all RANKS are as at the next one: there they are AT REST; that DEPTH is the first such");
        // The mark goes that told them apart to depth 5: nothing is left of the deeper ranks.
        AlikePosts x = evenRing(12);
        x.mark(0, 1);
        due(x.rest(), 5);
        x.mark(0, 0);
        due(x.rest(), 0);
        due(x.told(2), 1);
        due(x.ranks(20), 1);
        due(x.apart(0, 6), -9);
        for (int p = 0; p < 12; p++) {
            due(x.about(p, 2), 0);
            due(x.about(p, 3), 12);
        }
        x.mark(0, 1);
        due(x.rest(), 5);
        // A net behind clear() that rests at once, and one that rests at depth 1.
        x.clear();
        x.post(1);
        x.post(0);
        due(x.rest(), 0);
        due(x.about(0, 2), 1);
        due(x.about(1, 2), 0);
        due(x.ranks(20), 2);
        x.post(0);
        x.line(0, 1);
        x.line(0, 2);
        due(x.rest(), 1);
        due(x.chosen(), 1);
    }

    private static void alike() {
        under("Terms", "KINDRED of a POST: all that are ALIKE to it (it, too)");
        due(posts(0).about(0, 3), 1);
        due(posts(new int[12]).about(11, 3), 12);
        due(evenRing(12).about(5, 3), 12);
        AlikePosts x = posts(1, 2, 1, 2, 1, 3);
        int[] want = {3, 2, 3, 2, 3, 1};
        for (int p = 0; p < 6; p++) {
            due(x.about(p, 3), want[p]);
        }
        // Like ranks at depth 0 are not enough.
        due(hub().rank(1, 0), hub().rank(2, 0));
        due(hub().about(1, 3), 1);
    }

    private static void chosen() {
        under("Terms", "ONE CAN BE CHOSEN, if the NET HANGS TOGETHER, and no two are ALIKE: THE CHOSEN is that of RANK 0");
        due(posts(0).chosen(), 0);
        due(posts(1, 0).chosen(), -9);
        AlikePosts x = posts(1, 0);
        x.line(0, 1);
        due(x.chosen(), 1);
        x.mark(1, 1);
        due(x.chosen(), -9);
        AlikePosts y = path(11);
        due(y.chosen() >= 0 ? y.about(y.chosen(), 2) : -1, 0);
        y.post(5);
        due(y.chosen(), -9);
        AlikePosts z = evenRing(12);
        due(z.chosen(), -9);
        z.mark(11, 1);
        due(z.chosen() >= 0 ? z.about(z.chosen(), 2) : -1, 0);
        z.mark(5, 1);
        due(z.chosen(), -9);
        due(hub().chosen(), 1);
    }

    private static void doubledHalves() {
        under("Terms", "POST n + i is as POST i, with the same MARK; LINES as they are, for both halves");
        AlikePosts x = posts(9, 0, 4, 7, 0, 2);
        x.line(0, 1);
        x.line(2, 1);
        x.line(0, 1);
        x.line(3, 5);
        due(x.doubled(3, 0), 12);
        due(x.told(1), 8);
        int[] marks = {9, 0, 4, 7, 0, 2};
        int[] ports = {2, 3, 1, 1, 0, 1};
        for (int p = 0; p < 12; p++) {
            due(x.about(p, 0), marks[p % 6]);
            due(x.about(p, 1), ports[p % 6]);
        }
        int[][] ends = {{0, 0, 1, 0}, {0, 1, 1, 2}, {1, 0, 0, 0}, {1, 1, 2, 0}, {1, 2, 0, 1}, {2, 0, 1, 1}};
        for (int[] e : ends) {
            for (int half = 0; half < 12; half += 6) {
                due(x.end(e[0] + half, e[1], 0), e[2] + half);
                due(x.end(e[0] + half, e[1], 1), e[3]);
            }
        }
        due(posts(0).doubled(0, 0), -1);
    }

    private static void doubledChangesOneLineAlone() {
        under("Terms", "POST p's leads to POST n + q, POST n + p's to POST q, all by the PORTS they had");
        for (int port = 0; port < 6; port++) {
            AlikePosts x = posts(0, 1, 2);
            for (int line = 0; line < 3; line++) {
                x.line(0, 1);
                x.line(2, 0);
            }
            x.swap(0, 1, 4);
            x.swap(1, 0, 2);
            int q = x.end(0, port, 0);
            int far = x.end(0, port, 1);
            due(x.doubled(0, port), 6);
            due(x.end(0, port, 0), 3 + q);
            due(x.end(0, port, 1), far);
            due(x.end(3, port, 0), q);
            due(x.end(3, port, 1), far);
            due(x.end(q, far, 0), 3);
            due(x.end(q, far, 1), port);
            due(x.end(3 + q, far, 0), 0);
            due(x.end(3 + q, far, 1), port);
            for (int other = 0; other < 6; other++) {
                if (other != port) {
                    due(x.end(0, other, 0) < 3 ? 1 : 0, 1);
                    due(x.end(3, other, 0), x.end(0, other, 0) + 3);
                    due(x.end(3, other, 1), x.end(0, other, 1));
                }
            }
        }
    }

    private static void doubledByEitherEnd() {
        under("Terms", "of one LINE, told by a POST p and a PORT, with POST q at its other end, the two copies change their ends there");
        AlikePosts x = path(5);
        AlikePosts y = path(5);
        due(x.doubled(1, 1), 10);
        due(y.doubled(2, 0), 10);
        same(seen(x), seen(y));
        // All that can be seen of a net is as it was, so each has its kindred twice.
        AlikePosts z = path(5);
        for (int p = 0; p < 10; p++) {
            due(x.about(p, 2), z.about(p % 5, 2));
            due(x.about(p, 3), 2);
        }
    }

    // The draw and its number as the document tells them, on numbers that never go round of themselves.
    private static BigInteger step(BigInteger draw) {
        return draw.multiply(BigInteger.valueOf(6364136223846793005L)).add(BigInteger.valueOf(1442695040888963407L))
            .mod(BigInteger.ONE.shiftLeft(64));
    }

    private static int numberBelow(BigInteger draw, int n) {
        return draw.mod(BigInteger.ONE.shiftLeft(31)).divide(BigInteger.valueOf(4096)).mod(BigInteger.valueOf(n)).intValue();
    }

    private static final long[] SEEDS = {0, 1, -1, 4096, Long.MAX_VALUE, Long.MIN_VALUE, Long.MIN_VALUE + 1, 1L << 31, 1L << 32,
        -(1L << 31), 0x7fffffffL, 0xffffffffL, 6364136223846793005L, -6364136223846793005L, 77};

    private static void drawGoesRound() {
        under("Terms", "the seed at first; each time it becomes itself times 6364136223846793005 and 1442695040888963407 (going round)");
        for (long seed : SEEDS) {
            AlikePosts x = hub();
            List<Integer> on = new ArrayList<>(List.of(1, 2, 3, 4, 5, 6));
            BigInteger draw = BigInteger.valueOf(seed);
            due(x.flood(0, seed), 6);
            for (int i = 0; i < 6; i++) {
                draw = step(draw);
                due(x.word(i), on.remove(numberBelow(draw, on.size())));
            }
        }
    }

    private static void drawsByPostThenByPort() {
        under("Terms", "by POST, then by PORT, that at THE NUMBER below how many there are: its word comes to the other end");
        for (long seed : SEEDS) {
            floodedAsTold(packed(), 7, seed);
            floodedAsTold(evenRing(12), 11, seed);
            floodedAsTold(path(12), 6, seed);
            AlikePosts x = hub();
            x.line(1, 2);
            x.line(5, 3);
            x.line(5, 3);
            x.swap(0, 0, 5);
            floodedAsTold(x, 3, seed);
        }
    }

    // Words on their way as numbers of a post times 6 and a port, kept in order.
    private static void floodedAsTold(AlikePosts x, int root, long seed) {
        List<Integer> on = new ArrayList<>();
        int[] depth = new int[12];
        int[] parent = new int[12];
        java.util.Arrays.fill(depth, -9);
        java.util.Arrays.fill(parent, -9);
        depth[root] = 0;
        send(x, root, -1, on);
        BigInteger draw = BigInteger.valueOf(seed);
        int words = x.flood(root, seed);
        int came = 0;
        for (; !on.isEmpty(); came++) {
            java.util.Collections.sort(on);
            draw = step(draw);
            int from = on.remove(numberBelow(draw, on.size()));
            int to = x.end(from / 6, from % 6, 0);
            due(x.word(came), to);
            if (depth[to] == -9) {
                depth[to] = depth[from / 6] + 1;
                parent[to] = x.end(from / 6, from % 6, 1);
                send(x, to, parent[to], on);
            }
        }
        due(words, came);
        for (int p = 0; p < x.told(0); p++) {
            due(x.flooded(p, 0), parent[p]);
            due(x.flooded(p, 1), depth[p]);
        }
    }

    private static void send(AlikePosts x, int p, int but, List<Integer> on) {
        for (int port = 0; port < x.about(p, 1); port++) {
            if (port != but) {
                on.add(p * 6 + port);
            }
        }
    }

    private static void parentOfNone() {
        under("Terms", "a POST that had none yet (and did not begin) has the PORT where it came as its PARENT's");
        // Of six lines between two, five words come back to the one that began: it never gets a parent.
        AlikePosts x = posts(0, 0);
        for (int line = 0; line < 6; line++) {
            x.line(0, 1);
        }
        for (long seed : SEEDS) {
            due(x.flood(1, seed), 11);
            due(x.word(0), 0);
            due(x.flooded(1, 0), -9);
            due(x.flooded(1, 1), 0);
            due(x.flooded(1, 2), 5);
            due(x.flooded(0, 0), numberBelow(step(BigInteger.valueOf(seed)), 6));
            due(x.flooded(0, 1), 1);
            due(x.flooded(0, 2), 6);
        }
    }

    private static void oneWordByEachPort() {
        under("Terms", "and sends a word by each other PORT. (By each PORT a POST sends one word at most.)");
        // All 72 ports but the eleven of parents; each load is all ports but those to the children.
        AlikePosts x = packed();
        for (long seed : SEEDS) {
            due(x.flood(0, seed), 61);
            due(x.word(60) >= 0 ? 1 : 0, 1);
            due(x.word(61), -1);
            int loads = 0;
            for (int p = 0; p < 12; p++) {
                loads += x.flooded(p, 2);
            }
            due(loads, 61);
        }
        // Where no line is beside the tree, none comes back.
        AlikePosts y = path(12);
        due(y.flood(5, 1), 11);
        due(y.flooded(5, 2), 0);
    }

    private static long counted(int posts, int k, int what) {
        long count = 0;
        int rows = 1;
        for (int p = 0; p < posts; p++) {
            rows *= k;
        }
        for (int number = 0; number < rows; number++) {
            int greatest = -1;
            int having = 0;
            boolean all = true;
            int rest = number;
            for (int p = 0; p < posts; p++) {
                int drawn = rest % k;
                rest /= k;
                all &= drawn == number % k;
                having = drawn > greatest ? 1 : drawn == greatest ? having + 1 : having;
                greatest = Math.max(greatest, drawn);
            }
            if (what == 0 || what == 1 && having == 1 || what == 2 && all) {
                count++;
            }
        }
        return count;
    }

    private static void lots() {
        under("Terms", "of all k to the n rows (n POSTS) how many have one POST alone with the greatest number; of how many all draw alike");
        AlikePosts x = new AlikePosts();
        for (int posts = 1; posts <= 6; posts++) {
            x.post(posts);
            for (int k = 1; k <= 6; k++) {
                for (int what = 0; what < 3; what++) {
                    due(x.lots(k, what), counted(posts, k, what));
                }
            }
        }
        under("Terms", "each POST draws a number 0 .. k - 1 (k 1 .. 6)");
        for (int k : new int[] {0, -1, 7, MAX, MIN, 257, 65537}) {
            due(x.lots(k, 0), LOST);
        }
    }

    private static void sheetsAtFirst() {
        under("Terms", "SHEETS 0 .. 3 have nothing (at first), or a row of 0 .. 60 numbers (0 at first)");
        AlikePosts x = new AlikePosts();
        for (int k = 0; k < 4; k++) {
            due(x.put(k, 0, 0), -11);
            due(x.lose(k), 0);
        }
        for (int k : beyond(4)) {
            due(x.put(k, 0, 0), -1);
        }
        for (int k = 0; k < 4; k++) {
            due(x.sheet(k, k % 3, 0), 1);
            due(x.put(k, 0, 0), -13);
            due(x.sheet(k, k % 3, 60), 1);
            for (int i = 0; i < 60; i++) {
                due(x.cell(k, i, k % 3), 0);
            }
            due(x.put(k, 60, 0), -13);
        }
    }

    private static void cutToLane() {
        under("Terms", "what comes to a cell of it is cut to its LANE (with its sign)");
        AlikePosts x = new AlikePosts();
        int[] given = {127, 128, 255, 256, -128, -129, 32767, 32768, 65535, 65536, -32768, -32769, MAX, MIN, -1, 0};
        int[] bytes = {127, -128, -1, 0, -128, 127, -1, 0, -1, 0, 0, -1, -1, 0, -1, 0};
        int[] shorts = {127, 128, 255, 256, -128, -129, 32767, -32768, -1, 0, -32768, 32767, -1, 0, -1, 0};
        fill(x, 0, 0, given);
        fill(x, 1, 1, given);
        fill(x, 2, 2, given);
        cells(x, 0, 0, bytes);
        cells(x, 1, 1, shorts);
        cells(x, 2, 2, given);
    }

    private static void kinds() {
        under("Terms", "1 JOINED: one with a PORT at least; 2 END, a JOINED one with just one PORT");
        AlikePosts x = posts(0, 0);
        due(x.as(0, 0), 1);
        due(x.as(0, 1), -12);
        due(x.as(0, 2), -12);
        due(x.told(3), 0);
        for (int ports = 1; ports <= 6; ports++) {
            x.line(0, 1);
            due(x.as(0, 0), 1);
            due(x.as(0, 1), 1);
            due(x.as(0, 2), ports == 1 ? 1 : -12);
            due(x.told(3), ports == 1 ? 2 : 0);
        }
    }

    private static void traceWraps() {
        under("Terms", "TRACE (an int that wraps, 0 at first, becomes 31 times it and the number)");
        AlikePosts x = posts(0);
        due(x.trace(), 0);
        BigInteger want = BigInteger.ZERO;
        for (int i = 0; i < 200; i++) {
            x.hear(0);
            want = want.multiply(BigInteger.valueOf(31)).add(BigInteger.valueOf(4));
            due(x.trace(), want.intValue());
        }
    }

    private static void bodies() {
        under("Terms", "JOINED (2): what POST's gives, and how many PORTS it has");
        AlikePosts x = hub();
        x.mark(0, 9);
        due(x.tell(0), 15);
        due(x.trace(), 2 * 31 + 1);
        under("Terms", "END (3): what POST's gives (the one of JOINED left out), its contrary less 1");
        AlikePosts y = hub();
        due(y.tell(3), -1);
        due(y.trace(), 3 * 31 + 1);
        for (int mark = 1; mark <= 9; mark++) {
            y.mark(3, mark);
            due(y.tell(3), -mark - 1);
        }
        under("Terms", "POST (1): its MARK");
        AlikePosts z = posts(9);
        due(z.tell(0), 9);
        due(z.trace(), 1);
        under("Terms", "HEARD by a lent body (4): the POST's number; ENDS have their own (5): 70");
        AlikePosts h = path(11);
        h.post(0);
        int[] want = {70, 1, 2, 3, 4, 5, 6, 7, 8, 9, 70, 11};
        int trace = 0;
        for (int p = 0; p < 12; p++) {
            due(h.hear(p), want[p]);
            trace = 31 * trace + (want[p] == 70 ? 5 : 4);
            due(h.trace(), trace);
        }
    }
}

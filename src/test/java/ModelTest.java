import java.util.ArrayList;
import java.util.List;
import java.util.Random;
import java.util.TreeMap;

// Runs of 512 drawn calls, each answer measured against a second program of the document that is
// written as plainly as can be, on objects and the library, and lets the Java machine make the faults.
public final class ModelTest {
    private static final int RUNS = 600;
    private static final int CALLS = 512;

    public static void main(String[] args) {
        int wrong = 0;
        for (int seed = 0; seed < RUNS && wrong < 5; seed++) {
            if (!runIsAsDue(seed)) {
                wrong++;
            }
        }
        System.out.println(wrong == 0 ? RUNS + " runs are as the model's" : wrong + " runs are not as the model's");
        if (wrong != 0) {
            System.exit(1);
        }
    }

    private static boolean runIsAsDue(int seed) {
        Random random = new Random(seed);
        AlikePosts x = new AlikePosts();
        Model m = new Model();
        // Few posts that grow slowly, many, nets with few marks, wild numbers.
        Drawing d = new Drawing(random, m, seed % 4);
        for (int i = 0; i < CALLS; i++) {
            String call = d.next();
            long got = d.callReal(x);
            long want = d.callModel();
            if (got != want) {
                System.out.println("seed " + seed + ", call " + i + ": " + call + " answered " + got + ", due is " + want);
                return false;
            }
        }
        return true;
    }

    static final class Drawing {
        final Random random;
        final Model m;
        final int manner;
        int which;
        int[] a = new int[5];
        long seed;

        Drawing(Random random, Model m, int manner) {
            this.random = random;
            this.m = m;
            this.manner = manner;
        }

        int near(int low, int high) {
            if (random.nextInt(manner == 3 ? 6 : 40) == 0) {
                int[] wild = {-1, low - 1, high + 1, high + 2, Integer.MAX_VALUE, Integer.MIN_VALUE, random.nextInt()};
                return wild[random.nextInt(wild.length)];
            }
            return low + random.nextInt(high - low + 1);
        }

        int somePost() {
            return near(0, Math.max(0, m.posts.size() - 1));
        }

        int somePort(int p) {
            return near(0, p >= 0 && p < m.posts.size() ? Math.max(0, m.posts.get(p).ports.size() - 1) : 5);
        }

        int someLane(int k) {
            return k >= 0 && k < 4 && random.nextInt(8) > 0 ? m.laneOf(k) : near(0, 2);
        }

        int someCell(int k) {
            return near(0, k >= 0 && k < 4 ? Math.max(0, m.lengthOf(k)) : 3);
        }

        String next() {
            int[] heavy = {1, 1, 1, 3, 3, 3, 3, 3, 3, 4, 5, 7, 13, 16, 16, 17, 17, 18, 8, 8, 9, 9, 10, 11, 14, 15, 20, 22, 22, 22};
            which = random.nextInt(3) == 0 ? heavy[random.nextInt(heavy.length)] : random.nextInt(30);
            if (which == 0 && random.nextInt(manner == 1 ? 12 : 3) != 0) {
                which = 3;
            }
            if (which == 7 && random.nextInt(3) != 0) {
                which = 6;
            }
            a = new int[5];
            drawArguments();
            return "call " + which + " " + java.util.Arrays.toString(a) + " " + seed;
        }

        void drawArguments() {
            switch (which) {
                case 1: a[0] = near(0, manner == 2 ? 1 : random.nextInt(10)); break;
                case 2: a[0] = somePost(); a[1] = near(0, 9); break;
                case 3: case 14: a[0] = somePost(); a[1] = somePost(); break;
                case 4: a[0] = near(0, 3); a[1] = someLane(a[0]); a[2] = someCell(a[0]); a[3] = near(0, random.nextBoolean() ? 4 : 15); break;
                case 5: a[0] = somePost(); a[1] = somePort(a[0]); a[2] = somePort(a[0]); break;
                case 6: a[0] = somePost(); a[1] = somePort(a[0]); a[2] = near(0, 1); break;
                case 7: a[0] = somePost(); a[1] = somePort(a[0]); break;
                case 8: a[0] = somePost(); a[1] = near(0, 4); break;
                case 10: a[0] = somePost(); a[1] = near(0, random.nextBoolean() ? 3 : 20); break;
                case 12: a[0] = near(0, random.nextBoolean() ? 3 : 20); break;
                case 16: a[0] = somePost(); seed = random.nextInt(4) == 0 ? random.nextInt(9) - 4 : random.nextLong(); break;
                case 17: a[0] = somePost(); a[1] = near(0, 2); break;
                case 18: a[0] = near(0, 12); break;
                case 19: a[0] = near(1, 6); a[1] = near(0, 2); break;
                case 20: a[0] = near(0, 3); a[1] = near(0, 2); a[2] = near(0, random.nextBoolean() ? 6 : 60); break;
                case 21: a[0] = near(0, 3); break;
                case 22: a[0] = near(0, 3); a[1] = someCell(a[0]); a[2] = random.nextInt(5) == 0 ? random.nextInt() : somePost(); break;
                case 23: a[0] = near(0, 3); a[1] = someCell(a[0]); a[2] = someLane(a[0]); break;
                case 24: a[0] = near(0, 3); a[1] = someCell(a[0]); a[2] = near(0, 3); a[3] = someCell(a[2]); a[4] = near(0, 4); break;
                case 25: case 26: a[0] = somePost(); break;
                case 27: a[0] = somePost(); a[1] = near(0, 2); break;
                case 29: a[0] = near(0, 4); break;
                default: a[0] = near(0, 4); break;
            }
        }

        long callReal(AlikePosts x) {
            switch (which) {
                case 0: return x.clear();
                case 1: return x.post(a[0]);
                case 2: return x.mark(a[0], a[1]);
                case 3: return x.line(a[0], a[1]);
                case 4: return x.lines(a[0], a[1], a[2], a[3]);
                case 5: return x.swap(a[0], a[1], a[2]);
                case 6: return x.end(a[0], a[1], a[2]);
                case 7: return x.doubled(a[0], a[1]);
                case 8: return x.about(a[0], a[1]);
                case 9: return x.together();
                case 10: return x.rank(a[0], a[1]);
                case 11: return x.rest();
                case 12: return x.ranks(a[0]);
                case 13: return x.chosen();
                case 14: return x.apart(a[0], a[1]);
                case 15: return x.told(2);
                case 16: return x.flood(a[0], seed);
                case 17: return x.flooded(a[0], a[1]);
                case 18: return x.word(a[0]);
                case 19: return x.lots(a[0], a[1]);
                case 20: return x.sheet(a[0], a[1], a[2]);
                case 21: return x.lose(a[0]);
                case 22: return x.put(a[0], a[1], a[2]);
                case 23: return x.cell(a[0], a[1], a[2]);
                case 24: return x.copy(a[0], a[1], a[2], a[3], a[4]);
                case 25: return x.tell(a[0]);
                case 26: return x.hear(a[0]);
                case 27: return x.as(a[0], a[1]);
                case 28: return x.trace() * 5L + x.fault();
                default: return x.told(a[0]);
            }
        }

        long callModel() {
            switch (which) {
                case 0: return m.clear();
                case 1: return m.post(a[0]);
                case 2: return m.mark(a[0], a[1]);
                case 3: return m.line(a[0], a[1]);
                case 4: return m.lines(a[0], a[1], a[2], a[3]);
                case 5: return m.swap(a[0], a[1], a[2]);
                case 6: return m.end(a[0], a[1], a[2]);
                case 7: return m.doubled(a[0], a[1]);
                case 8: return m.about(a[0], a[1]);
                case 9: return m.together();
                case 10: return m.rank(a[0], a[1]);
                case 11: return m.rest();
                case 12: return m.ranks(a[0]);
                case 13: return m.chosen();
                case 14: return m.apart(a[0], a[1]);
                case 15: return m.told(2);
                case 16: return m.flood(a[0], seed);
                case 17: return m.flooded(a[0], a[1]);
                case 18: return m.word(a[0]);
                case 19: return m.lots(a[0], a[1]);
                case 20: return m.sheet(a[0], a[1], a[2]);
                case 21: return m.lose(a[0]);
                case 22: return m.put(a[0], a[1], a[2]);
                case 23: return m.cell(a[0], a[1], a[2]);
                case 24: return m.copy(a[0], a[1], a[2], a[3], a[4]);
                case 25: return m.tell(a[0]);
                case 26: return m.hear(a[0]);
                case 27: return m.as(a[0], a[1]);
                case 28: return m.trace * 5L + m.fault;
                default: return m.told(a[0]);
            }
        }
    }

    static final class Port {
        final Post of;
        Port across;
        Port(Post of) { this.of = of; }
        int number() { return of.ports.indexOf(this); }
    }

    static final class Post {
        int mark;
        final List<Port> ports = new ArrayList<>();
        Port parent;
        int depth;
        int load;
        boolean reached;
        Post(int mark) { this.mark = mark; }
    }

    static final class Model {
        List<Post> posts = new ArrayList<>();
        List<Post> words;
        final Object[] sheets = new Object[4];
        int trace;
        int fault;

        boolean unknown(int p) { return p < 0 || p >= posts.size(); }
        boolean unknown(int p, int port) { return unknown(p) || port < 0 || port >= posts.get(p).ports.size(); }

        int countLines() {
            int ends = 0;
            for (Post p : posts) ends += p.ports.size();
            return ends / 2;
        }

        int clear() {
            int was = posts.size();
            posts = new ArrayList<>();
            words = null;
            return was;
        }

        int post(int mark) {
            if (mark < 0 || mark > 9) return -2;
            if (posts.size() == 12) return -4;
            words = null;
            posts.add(new Post(mark));
            return posts.size() - 1;
        }

        int mark(int p, int mark) {
            if (unknown(p)) return -1;
            if (mark < 0 || mark > 9) return -2;
            int was = posts.get(p).mark;
            posts.get(p).mark = mark;
            return was;
        }

        int line(int p, int q) {
            if (unknown(p) || unknown(q)) return -1;
            if (p == q) return -2;
            if (posts.get(p).ports.size() == 6 || posts.get(q).ports.size() == 6) return -4;
            Port one = new Port(posts.get(p));
            Port other = new Port(posts.get(q));
            one.across = other;
            other.across = one;
            one.of.ports.add(one);
            other.of.ports.add(other);
            words = null;
            return countLines();
        }

        void undoLine(int p, int q) {
            posts.get(p).ports.remove(posts.get(p).ports.size() - 1);
            posts.get(q).ports.remove(posts.get(q).ports.size() - 1);
        }

        int lines(int k, int lane, int i, int n) {
            fault = 0;
            if (k < 0 || k > 3) return -1;
            if (lane < 0 || lane > 2) return -2;
            if (sheets[k] != null && laneOf(k) != lane) return meet(2);
            if (sheets[k] == null) return meet(1);
            if (n < 0) return meet(4);
            if (i < 0 || i > lengthOf(k) || i + 2L * n > lengthOf(k)) return meet(3);
            List<Post> keptWords = words;
            for (int c = 0; c < n; c++) {
                int answer = line((int) at(k, i + 2 * c), (int) at(k, i + 2 * c + 1));
                if (answer < 0) {
                    for (int back = c - 1; back >= 0; back--) undoLine((int) at(k, i + 2 * back), (int) at(k, i + 2 * back + 1));
                    words = keptWords;
                    return answer;
                }
            }
            words = null;
            return countLines();
        }

        int swap(int p, int i, int j) {
            if (unknown(p, i) || unknown(p, j)) return -1;
            words = null;
            if (i == j) return 0;
            java.util.Collections.swap(posts.get(p).ports, i, j);
            return 1;
        }

        int end(int p, int port, int what) {
            if (unknown(p, port)) return -1;
            Port across = posts.get(p).ports.get(port).across;
            return what == 0 ? posts.indexOf(across.of) : what == 1 ? across.number() : -2;
        }

        int doubled(int p, int port) {
            if (unknown(p, port)) return -1;
            int n = posts.size();
            if (n > 6) return -4;
            for (int i = 0; i < n; i++) {
                Post twin = new Post(posts.get(i).mark);
                for (int t = 0; t < posts.get(i).ports.size(); t++) twin.ports.add(new Port(twin));
                posts.add(twin);
            }
            for (int i = 0; i < n; i++) {
                for (int t = 0; t < posts.get(i).ports.size(); t++) {
                    posts.get(n + i).ports.get(t).across = posts.get(n + end(i, t, 0)).ports.get(end(i, t, 1));
                }
            }
            Port a = posts.get(p).ports.get(port);
            Port b = a.across;
            Port a2 = posts.get(n + p).ports.get(port);
            Port b2 = a2.across;
            a.across = b2;
            b2.across = a;
            a2.across = b;
            b.across = a2;
            words = null;
            return 2 * n;
        }

        // From the definition: each depth anew from the one ahead of it, by the order of rows of numbers.
        int[] ranksAt(int depth) {
            int n = posts.size();
            List<List<Integer>> rows = new ArrayList<>();
            int[] before = depth == 0 ? null : ranksAt(depth - 1);
            for (int p = 0; p < n; p++) {
                List<Integer> row = new ArrayList<>();
                if (depth == 0) {
                    row.add(posts.get(p).mark);
                    row.add(posts.get(p).ports.size());
                } else {
                    row.add(before[p]);
                    for (int t = 0; t < posts.get(p).ports.size(); t++) {
                        row.add(end(p, t, 1));
                        row.add(before[end(p, t, 0)]);
                    }
                }
                rows.add(row);
            }
            TreeMap<List<Integer>, Integer> order = new TreeMap<>(Model::compare);
            for (List<Integer> row : rows) order.put(row, 0);
            int next = 0;
            for (List<Integer> row : order.keySet()) order.put(row, next++);
            int[] ranks = new int[n];
            for (int p = 0; p < n; p++) ranks[p] = order.get(rows.get(p));
            return ranks;
        }

        static int compare(List<Integer> a, List<Integer> b) {
            for (int i = 0; i < Math.min(a.size(), b.size()); i++) {
                if (!a.get(i).equals(b.get(i))) return Integer.compare(a.get(i), b.get(i));
            }
            return Integer.compare(a.size(), b.size());
        }

        int restDepth() {
            int depth = 0;
            while (!java.util.Arrays.equals(ranksAt(depth), ranksAt(depth + 1))) depth++;
            return depth;
        }

        int[] atRest() { return ranksAt(restDepth()); }

        int unlike(int[] ranks) { return (int) java.util.Arrays.stream(ranks).distinct().count(); }

        int about(int p, int what) {
            if (unknown(p)) return -1;
            switch (what) {
                case 0: return posts.get(p).mark;
                case 1: return posts.get(p).ports.size();
                case 2: return atRest()[p];
                case 3:
                    int[] ranks = atRest();
                    return (int) java.util.Arrays.stream(ranks).filter(r -> r == ranks[p]).count();
                case 4: return far()[p];
                default: return -2;
            }
        }

        int[] far() {
            int[] far = new int[posts.size()];
            java.util.Arrays.fill(far, 1000);
            if (far.length > 0) far[0] = 0;
            for (int round = 0; round < 12; round++) {
                for (int p = 0; p < far.length; p++) {
                    for (Port t : posts.get(p).ports) far[p] = Math.min(far[p], far[posts.indexOf(t.across.of)] + 1);
                }
            }
            for (int p = 0; p < far.length; p++) if (far[p] >= 1000) far[p] = -9;
            return far;
        }

        int reached() { return (int) java.util.Arrays.stream(far()).filter(f -> f != -9).count(); }
        int together() { return !posts.isEmpty() && reached() == posts.size() ? 1 : 0; }

        int rank(int p, int depth) {
            if (unknown(p)) return -1;
            return depth < 0 || depth > 20 ? -2 : ranksAt(depth)[p];
        }

        int rest() { return posts.isEmpty() ? -3 : restDepth(); }
        int ranks(int depth) { return depth < 0 || depth > 20 ? -2 : unlike(ranksAt(depth)); }

        int apart(int p, int q) {
            if (unknown(p) || unknown(q)) return -1;
            for (int depth = 0; depth <= 20; depth++) {
                int[] ranks = ranksAt(depth);
                if (ranks[p] != ranks[q]) return depth;
            }
            return -9;
        }

        int chosen() {
            if (together() == 0) return -9;
            int[] ranks = atRest();
            if (unlike(ranks) < ranks.length) return -9;
            for (int p = 0; p < ranks.length; p++) if (ranks[p] == 0) return p;
            return -9;
        }

        int flood(int p, long seed) {
            if (unknown(p)) return -1;
            for (Post post : posts) {
                post.parent = null;
                post.load = 0;
                post.reached = false;
                post.depth = -9;
            }
            words = new ArrayList<>();
            Post root = posts.get(p);
            root.reached = true;
            root.depth = 0;
            List<Port> sent = new ArrayList<>(root.ports);
            long draw = seed;
            while (!sent.isEmpty()) {
                sent.sort((s, t) -> s.of == t.of ? s.number() - t.number() : posts.indexOf(s.of) - posts.indexOf(t.of));
                draw = 6364136223846793005L * draw + 1442695040888963407L;
                long lower = draw & ((1L << 31) - 1);
                Port from = sent.remove((int) (lower / 4096 % sent.size()));
                Post to = from.across.of;
                words.add(to);
                to.load++;
                if (!to.reached) {
                    to.reached = true;
                    to.parent = from.across;
                    to.depth = from.of.depth + 1;
                    for (Port t : to.ports) if (t != to.parent) sent.add(t);
                }
            }
            return words.size();
        }

        int flooded(int p, int what) {
            if (words == null) return -3;
            if (unknown(p)) return -1;
            Post post = posts.get(p);
            switch (what) {
                case 0: return post.parent == null ? -9 : post.parent.number();
                case 1: return post.depth;
                case 2: return post.load;
                default: return -2;
            }
        }

        int word(int i) {
            if (words == null) return -3;
            return i < 0 || i >= words.size() ? -1 : posts.indexOf(words.get(i));
        }

        // Post by post: how many rows so far have this greatest number, once or more often, or are all alike.
        long lots(int k, int what) {
            if (k < 1 || k > 6 || what < 0 || what > 2 || posts.isEmpty()) return Long.MIN_VALUE;
            long[][] rows = new long[k][2];
            for (int v = 0; v < k; v++) rows[v][0] = 1;
            for (int post = 1; post < posts.size(); post++) {
                long[][] next = new long[k][2];
                for (int top = 0; top < k; top++) {
                    for (int shared = 0; shared < 2; shared++) {
                        for (int v = 0; v < k; v++) {
                            next[Math.max(v, top)][v > top ? 0 : v == top ? 1 : shared] += rows[top][shared];
                        }
                    }
                }
                rows = next;
            }
            long all = 0;
            long alone = 0;
            for (long[] row : rows) {
                all += row[0] + row[1];
                alone += row[0];
            }
            return what == 0 ? all : what == 1 ? alone : k;
        }

        int laneOf(int k) { return sheets[k] instanceof byte[] ? 0 : sheets[k] instanceof short[] ? 1 : 2; }
        int lengthOf(int k) { return sheets[k] == null ? -1 : java.lang.reflect.Array.getLength(sheets[k]); }
        long at(int k, int i) { return java.lang.reflect.Array.getInt(sheets[k], i); }

        int meet(int number) {
            fault = number;
            return -10 - number;
        }

        int meet(RuntimeException e) {
            return meet(e instanceof NullPointerException ? 1 : e instanceof ClassCastException ? 2
                : e instanceof ArrayStoreException ? 2 : e instanceof IndexOutOfBoundsException ? 3 : 4);
        }

        int sheet(int k, int lane, int n) {
            fault = 0;
            if (k < 0 || k > 3) return -1;
            if (lane < 0 || lane > 2 || n > 60) return -2;
            try {
                sheets[k] = lane == 0 ? new byte[n] : lane == 1 ? new short[n] : new int[n];
                return 1;
            } catch (RuntimeException e) {
                return meet(e);
            }
        }

        int lose(int k) {
            if (k < 0 || k > 3) return -1;
            int had = sheets[k] == null ? 0 : 1;
            sheets[k] = null;
            return had;
        }

        int put(int k, int i, int v) {
            fault = 0;
            if (k < 0 || k > 3) return -1;
            try {
                if (sheets[k] instanceof byte[]) ((byte[]) sheets[k])[i] = (byte) v;
                else if (sheets[k] instanceof short[]) ((short[]) sheets[k])[i] = (short) v;
                else ((int[]) sheets[k])[i] = v;
                return 1;
            } catch (RuntimeException e) {
                return meet(e);
            }
        }

        long cell(int k, int i, int lane) {
            fault = 0;
            if (k < 0 || k > 3 || lane < 0 || lane > 2) return Long.MIN_VALUE;
            try {
                return lane == 0 ? ((byte[]) sheets[k])[i] : lane == 1 ? ((short[]) sheets[k])[i] : ((int[]) sheets[k])[i];
            } catch (RuntimeException e) {
                meet(e);
                return Long.MIN_VALUE;
            }
        }

        int copy(int k, int i, int other, int j, int n) {
            fault = 0;
            if (k < 0 || k > 3 || other < 0 || other > 3) return -1;
            try {
                System.arraycopy(sheets[k], i, sheets[other], j, n);
                return n;
            } catch (RuntimeException e) {
                return meet(e);
            }
        }

        static class Told {
            final Model m;
            final Post post;
            final int number;
            Told(Model m, int number) { this.m = m; this.number = number; this.post = m.posts.get(number); }
            void leave(int body) { m.trace = m.trace * 31 + body; }
            int postBody() { leave(1); return post.mark; }
            int tell() { return postBody(); }
            int heard() { leave(4); return number; }
        }

        static class Joined extends Told {
            Joined(Model m, int number) { super(m, number); }
            @Override int tell() { leave(2); return postBody() + post.ports.size(); }
        }

        static final class End extends Joined {
            End(Model m, int number) { super(m, number); }
            @Override int tell() { leave(3); return -postBody() - 1; }
            @Override int heard() { leave(5); return 70; }
        }

        Told kindOf(int p) {
            int ports = posts.get(p).ports.size();
            return ports == 0 ? new Told(this, p) : ports == 1 ? new End(this, p) : new Joined(this, p);
        }

        int tell(int p) { return unknown(p) ? -1 : kindOf(p).tell(); }
        int hear(int p) { return unknown(p) ? -1 : kindOf(p).heard(); }

        int as(int p, int kind) {
            fault = 0;
            if (unknown(p)) return -1;
            if (kind < 0 || kind > 2) return -2;
            Class<?>[] kinds = {Told.class, Joined.class, End.class};
            try {
                kinds[kind].cast(kindOf(p));
                return 1;
            } catch (RuntimeException e) {
                return meet(e);
            }
        }

        int told(int what) {
            switch (what) {
                case 0: return posts.size();
                case 1: return countLines();
                case 2: return unlike(atRest());
                case 3: return (int) posts.stream().filter(p -> p.ports.size() == 1).count();
                case 4: return reached();
                default: return -2;
            }
        }
    }
}

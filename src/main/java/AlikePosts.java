import java.util.Arrays;

/** A net of alike posts without names: its ranks, floods and lots, and sheets of numbers beside it. */
public final class AlikePosts {
    public static final int UNKNOWN = -1, OUTSIDE = -2, STATE = -3, FULL = -4, NONE = -9;
    public static final long LOST = Long.MIN_VALUE;

    private static final int MOST_POSTS = 12;
    private static final int MOST_PORTS = 6;
    private static final int MOST_SLOTS = MOST_POSTS * MOST_PORTS;
    private static final int MOST_MARK = 9;
    private static final int MOST_DEPTH = 20;
    private static final int MOST_LOT = 6;
    private static final int SHEETS = 4;
    private static final int MOST_CELLS = 60;

    private static final int LANE_BYTES = 0, LANE_SHORTS = 1, LANE_INTS = 2;
    private static final int KIND_POST = 0, KIND_JOINED = 1, KIND_END = 2;
    private static final int FAULT_NULL = 1, FAULT_CAST = 2, FAULT_INDEX = 3, FAULT_SIZE = 4;
    private static final int HEARD_END = 70;
    // No refusal is 0, so it can stand for "nothing is against it".
    private static final int NO_REFUSAL = 0;

    private final Net net;
    private final Ranks order;
    private final Flooding latest;
    private final Sheet[] rows;
    private int traceSoFar;
    private int latestFault;

    public AlikePosts() {
        net = new Net();
        order = new Ranks(net);
        latest = new Flooding(net);
        rows = new Sheet[SHEETS];
        for (int k = 0; k < SHEETS; k++) {
            rows[k] = new Sheet();
        }
    }

    // ---- 1 nets

    public int clear() {
        int before = net.posts;
        net.removeAll();
        netIsNew();
        return before;
    }

    public int post(int mark) {
        if (!isMark(mark)) {
            return OUTSIDE;
        }
        if (net.posts >= MOST_POSTS) {
            return FULL;
        }
        netIsNew();
        return net.addPost(mark);
    }

    public int mark(int p, int mark) {
        if (!net.has(p)) {
            return UNKNOWN;
        }
        if (!isMark(mark)) {
            return OUTSIDE;
        }
        int before = net.marks[p];
        net.marks[p] = mark;
        // A flooding outlives a new mark, the ranks do not.
        order.forget();
        return before;
    }

    public int line(int p, int q) {
        int refusal = net.refusalOfLine(p, q, net.ports);
        if (refusal != NO_REFUSAL) {
            return refusal;
        }
        net.join(p, q);
        netIsNew();
        return net.lines;
    }

    public int lines(int k, int lane, int i, int n) {
        latestFault = 0;
        Sheet row = rowAt(k);
        if (row == null) {
            return UNKNOWN;
        }
        if (!isLane(lane)) {
            return OUTSIDE;
        }
        int met = faultAsRowOf(row, lane);
        if (met != 0) {
            return comeTo(met);
        }
        if (n < 0) {
            return comeTo(FAULT_SIZE);
        }
        if (!row.holds(i, 2L * n)) {
            return comeTo(FAULT_INDEX);
        }
        int refusal = net.refusalOfLines(row, i, n);
        if (refusal != NO_REFUSAL) {
            return refusal;
        }
        net.joinAll(row, i, n);
        netIsNew();
        return net.lines;
    }

    public int swap(int p, int i, int j) {
        if (!net.hasPort(p, i) || !net.hasPort(p, j)) {
            return UNKNOWN;
        }
        netIsNew();
        if (i == j) {
            return 0;
        }
        net.exchange(slotOf(p, i), slotOf(p, j));
        return 1;
    }

    public int end(int p, int port, int what) {
        if (!net.hasPort(p, port)) {
            return UNKNOWN;
        }
        int slot = net.across[slotOf(p, port)];
        switch (what) {
            case 0:
                return postOf(slot);
            case 1:
                return portOf(slot);
            default:
                return OUTSIDE;
        }
    }

    public int doubled(int p, int port) {
        if (!net.hasPort(p, port)) {
            return UNKNOWN;
        }
        if (2 * net.posts > MOST_POSTS) {
            return FULL;
        }
        net.makeTwice(slotOf(p, port));
        netIsNew();
        return net.posts;
    }

    public int about(int p, int what) {
        if (!net.has(p)) {
            return UNKNOWN;
        }
        switch (what) {
            case 0:
                return net.marks[p];
            case 1:
                return net.ports[p];
            case 2:
                return order.atRest(p);
            case 3:
                return order.kindredOf(p);
            case 4:
                net.measure();
                return net.far[p];
            default:
                return OUTSIDE;
        }
    }

    public int together() {
        return hangsTogether() ? 1 : 0;
    }

    // ---- 2 ranks

    public int rank(int p, int depth) {
        if (!net.has(p)) {
            return UNKNOWN;
        }
        if (!isDepth(depth)) {
            return OUTSIDE;
        }
        return order.at(p, depth);
    }

    public int rest() {
        if (net.posts == 0) {
            return STATE;
        }
        return order.depthOfRest();
    }

    public int ranks(int depth) {
        if (!isDepth(depth)) {
            return OUTSIDE;
        }
        return order.unlikeAt(depth);
    }

    public int apart(int p, int q) {
        if (!net.has(p) || !net.has(q)) {
            return UNKNOWN;
        }
        return order.firstApart(p, q);
    }

    public int chosen() {
        if (!hangsTogether() || unlikeAtRest() != net.posts) {
            return NONE;
        }
        return order.firstAtRest();
    }

    // ---- 3 floods, lots

    public int flood(int p, long seed) {
        if (!net.has(p)) {
            return UNKNOWN;
        }
        latest.runFrom(p, seed);
        return latest.words;
    }

    public int flooded(int p, int what) {
        if (!latest.there) {
            return STATE;
        }
        if (!net.has(p)) {
            return UNKNOWN;
        }
        switch (what) {
            case 0:
                return latest.parentPorts[p];
            case 1:
                return latest.depths[p];
            case 2:
                return latest.loads[p];
            default:
                return OUTSIDE;
        }
    }

    public int word(int i) {
        if (!latest.there) {
            return STATE;
        }
        if (i < 0 || i >= latest.words) {
            return UNKNOWN;
        }
        return latest.comings[i];
    }

    public long lots(int k, int what) {
        if (k < 1 || k > MOST_LOT || net.posts == 0) {
            return LOST;
        }
        switch (what) {
            case 0:
                return power(k, net.posts);
            case 1:
                return rowsWithOneGreatest(k, net.posts);
            case 2:
                return k;
            default:
                return LOST;
        }
    }

    // ---- 4 sheets, parts

    public int sheet(int k, int lane, int n) {
        latestFault = 0;
        Sheet row = rowAt(k);
        if (row == null) {
            return UNKNOWN;
        }
        if (!isLane(lane) || n > MOST_CELLS) {
            return OUTSIDE;
        }
        if (n < 0) {
            return comeTo(FAULT_SIZE);
        }
        row.renew(lane, n);
        return 1;
    }

    public int lose(int k) {
        Sheet row = rowAt(k);
        if (row == null) {
            return UNKNOWN;
        }
        int had = row.there ? 1 : 0;
        row.there = false;
        return had;
    }

    public int put(int k, int i, int v) {
        latestFault = 0;
        Sheet row = rowAt(k);
        if (row == null) {
            return UNKNOWN;
        }
        if (!row.there) {
            return comeTo(FAULT_NULL);
        }
        if (!row.holds(i, 1)) {
            return comeTo(FAULT_INDEX);
        }
        row.cells[i] = cutTo(row.lane, v);
        return 1;
    }

    public long cell(int k, int i, int lane) {
        latestFault = 0;
        Sheet row = rowAt(k);
        if (row == null || !isLane(lane)) {
            return LOST;
        }
        int met = faultAsRowOf(row, lane);
        if (met == 0 && !row.holds(i, 1)) {
            met = FAULT_INDEX;
        }
        if (met != 0) {
            comeTo(met);
            return LOST;
        }
        return row.cells[i];
    }

    public int copy(int k, int i, int other, int j, int n) {
        latestFault = 0;
        Sheet from = rowAt(k);
        Sheet to = rowAt(other);
        if (from == null || to == null) {
            return UNKNOWN;
        }
        if (!from.there || !to.there) {
            return comeTo(FAULT_NULL);
        }
        if (from.lane != to.lane) {
            return comeTo(FAULT_CAST);
        }
        if (!from.holds(i, n) || !to.holds(j, n)) {
            return comeTo(FAULT_INDEX);
        }
        System.arraycopy(from.cells, i, to.cells, j, n);
        return n;
    }

    public int tell(int p) {
        if (!net.has(p)) {
            return UNKNOWN;
        }
        if (isOfKind(p, KIND_END)) {
            return tellAsEnd(p);
        }
        return isOfKind(p, KIND_JOINED) ? tellAsJoined(p) : tellAsPost(p);
    }

    public int hear(int p) {
        if (!net.has(p)) {
            return UNKNOWN;
        }
        if (isOfKind(p, KIND_END)) {
            leave(5);
            return HEARD_END;
        }
        leave(4);
        return p;
    }

    public int as(int p, int kind) {
        latestFault = 0;
        if (!net.has(p)) {
            return UNKNOWN;
        }
        if (kind < KIND_POST || kind > KIND_END) {
            return OUTSIDE;
        }
        return isOfKind(p, kind) ? 1 : comeTo(FAULT_CAST);
    }

    public int trace() {
        return traceSoFar;
    }

    public int fault() {
        return latestFault;
    }

    public int told(int what) {
        switch (what) {
            case 0:
                return net.posts;
            case 1:
                return net.lines;
            case 2:
                return unlikeAtRest();
            case 3:
                return net.ends();
            case 4:
                return net.measure();
            default:
                return OUTSIDE;
        }
    }

    private static boolean isMark(int mark) {
        return mark >= 0 && mark <= MOST_MARK;
    }

    private static boolean isDepth(int depth) {
        return depth >= 0 && depth <= MOST_DEPTH;
    }

    private static boolean isLane(int lane) {
        return lane >= LANE_BYTES && lane <= LANE_INTS;
    }

    // A port of a post is kept as one number, its slot: slots stand by post, then by port.
    private static int slotOf(int p, int port) {
        return p * MOST_PORTS + port;
    }

    private static int postOf(int slot) {
        return slot / MOST_PORTS;
    }

    private static int portOf(int slot) {
        return slot % MOST_PORTS;
    }

    private void netIsNew() {
        order.forget();
        latest.there = false;
    }

    private boolean hangsTogether() {
        return net.posts > 0 && net.measure() == net.posts;
    }

    private int unlikeAtRest() {
        return order.unlikeAt(MOST_DEPTH);
    }

    private static long power(int base, int times) {
        long product = 1;
        for (int i = 0; i < times; i++) {
            product *= base;
        }
        return product;
    }

    // Whoever is alone with a greatest number leaves each other post the numbers below it.
    private static long rowsWithOneGreatest(int k, int posts) {
        long sum = 0;
        for (int greatest = 0; greatest < k; greatest++) {
            sum += power(greatest, posts - 1);
        }
        return posts * sum;
    }

    private Sheet rowAt(int k) {
        return k >= 0 && k < SHEETS ? rows[k] : null;
    }

    private static int faultAsRowOf(Sheet row, int lane) {
        if (!row.there) {
            return FAULT_NULL;
        }
        return row.lane == lane ? 0 : FAULT_CAST;
    }

    private int comeTo(int met) {
        latestFault = met;
        return -10 - met;
    }

    private static int cutTo(int lane, int v) {
        if (lane == LANE_BYTES) {
            return (byte) v;
        }
        return lane == LANE_SHORTS ? (short) v : v;
    }

    private boolean isOfKind(int p, int kind) {
        switch (kind) {
            case KIND_JOINED:
                return net.ports[p] > 0;
            case KIND_END:
                return net.ports[p] == 1;
            default:
                return true;
        }
    }

    private int tellAsPost(int p) {
        leave(1);
        return net.marks[p];
    }

    private int tellAsJoined(int p) {
        leave(2);
        return tellAsPost(p) + net.ports[p];
    }

    private int tellAsEnd(int p) {
        leave(3);
        return -tellAsPost(p) - 1;
    }

    private void leave(int body) {
        traceSoFar = 31 * traceSoFar + body;
    }

    /** The posts, their ports and lines. */
    private static final class Net {
        int posts;
        int lines;
        final int[] marks = new int[MOST_POSTS];
        final int[] ports = new int[MOST_POSTS];
        /** Of each slot in use the slot at the other end of its line. */
        final int[] across = new int[MOST_SLOTS];
        /** How far each post is from post 0, as last measured. */
        final int[] far = new int[MOST_POSTS];
        private final int[] reached = new int[MOST_POSTS];
        private final int[] portsOnTrial = new int[MOST_POSTS];

        boolean has(int p) {
            return p >= 0 && p < posts;
        }

        boolean hasPort(int p, int port) {
            return has(p) && port >= 0 && port < ports[p];
        }

        void removeAll() {
            posts = 0;
            lines = 0;
        }

        int addPost(int mark) {
            int p = posts;
            marks[p] = mark;
            ports[p] = 0;
            posts++;
            return p;
        }

        int refusalOfLine(int p, int q, int[] portsSoFar) {
            if (!has(p) || !has(q)) {
                return UNKNOWN;
            }
            if (p == q) {
                return OUTSIDE;
            }
            if (portsSoFar[p] >= MOST_PORTS || portsSoFar[q] >= MOST_PORTS) {
                return FULL;
            }
            return NO_REFUSAL;
        }

        // Tried on a copy of the port counts first, since a later refusal must leave no line behind.
        int refusalOfLines(Sheet row, int i, int n) {
            System.arraycopy(ports, 0, portsOnTrial, 0, MOST_POSTS);
            for (int m = 0; m < n; m++) {
                int p = row.cells[i + 2 * m];
                int q = row.cells[i + 2 * m + 1];
                int refusal = refusalOfLine(p, q, portsOnTrial);
                if (refusal != NO_REFUSAL) {
                    return refusal;
                }
                portsOnTrial[p]++;
                portsOnTrial[q]++;
            }
            return NO_REFUSAL;
        }

        void join(int p, int q) {
            tie(slotOf(p, ports[p]), slotOf(q, ports[q]));
            ports[p]++;
            ports[q]++;
            lines++;
        }

        void joinAll(Sheet row, int i, int n) {
            for (int m = 0; m < n; m++) {
                join(row.cells[i + 2 * m], row.cells[i + 2 * m + 1]);
            }
        }

        private void tie(int slot, int other) {
            across[slot] = other;
            across[other] = slot;
        }

        // No line leads back to its own post, so neither slot is at the other's far end.
        void exchange(int slot, int other) {
            int farOfSlot = across[slot];
            int farOfOther = across[other];
            tie(slot, farOfOther);
            tie(other, farOfSlot);
        }

        void makeTwice(int crossed) {
            int shift = posts * MOST_PORTS;
            int crossedFar = across[crossed];
            for (int p = 0; p < posts; p++) {
                marks[posts + p] = marks[p];
                ports[posts + p] = ports[p];
            }
            for (int slot = 0; slot < shift; slot++) {
                across[shift + slot] = shift + across[slot];
            }
            tie(crossed, shift + crossedFar);
            tie(shift + crossed, crossedFar);
            posts *= 2;
            lines *= 2;
        }

        int ends() {
            int count = 0;
            for (int p = 0; p < posts; p++) {
                if (ports[p] == 1) {
                    count++;
                }
            }
            return count;
        }

        /** Fills in how far each post is from post 0, and answers how many are come to. */
        int measure() {
            Arrays.fill(far, NONE);
            if (posts == 0) {
                return 0;
            }
            far[0] = 0;
            reached[0] = 0;
            int known = 1;
            for (int next = 0; next < posts && next < known; next++) {
                known = reachFrom(reached[next], known);
            }
            return known;
        }

        private int reachFrom(int p, int knownBefore) {
            int known = knownBefore;
            for (int port = 0; port < ports[p]; port++) {
                int q = postOf(across[slotOf(p, port)]);
                if (far[q] == NONE) {
                    far[q] = far[p] + 1;
                    reached[known] = q;
                    known++;
                }
            }
            return known;
        }
    }

    /** The ranks of a net, reckoned once for each state of it. */
    private static final class Ranks {
        private final Net net;
        /** Rank by depth, then by post; twelve posts rest at depth 11 at the latest. */
        private final int[] table = new int[MOST_POSTS * MOST_POSTS];
        private final int[] unlike = new int[MOST_POSTS];
        private final long[] keys = new long[MOST_POSTS];
        private final long[] unlikeKeys = new long[MOST_POSTS];
        private int restDepth;
        private boolean reckoned;

        Ranks(Net net) {
            this.net = net;
        }

        void forget() {
            reckoned = false;
        }

        int at(int p, int depth) {
            reckon();
            return inTable(p, Math.min(depth, restDepth));
        }

        int atRest(int p) {
            reckon();
            return inTable(p, restDepth);
        }

        private int inTable(int p, int depth) {
            return table[depth * MOST_POSTS + p];
        }

        int unlikeAt(int depth) {
            reckon();
            return unlike[Math.min(depth, restDepth)];
        }

        int depthOfRest() {
            reckon();
            return restDepth;
        }

        int kindredOf(int p) {
            reckon();
            int count = 0;
            for (int q = 0; q < net.posts; q++) {
                if (inTable(q, restDepth) == inTable(p, restDepth)) {
                    count++;
                }
            }
            return count;
        }

        int firstApart(int p, int q) {
            reckon();
            for (int depth = 0; depth <= restDepth; depth++) {
                if (inTable(p, depth) != inTable(q, depth)) {
                    return depth;
                }
            }
            return NONE;
        }

        int firstAtRest() {
            reckon();
            for (int p = 0; p < net.posts; p++) {
                if (inTable(p, restDepth) == 0) {
                    return p;
                }
            }
            return NONE;
        }

        // Each depth splits ranks and never joins them, so as many ranks are the same ranks.
        private void reckon() {
            if (reckoned) {
                return;
            }
            reckoned = true;
            restDepth = 0;
            setFirstKeys();
            unlike[0] = rankByKeys(0);
            for (int depth = 1; depth < MOST_POSTS; depth++) {
                setKeysBehind(depth - 1);
                unlike[depth] = rankByKeys(depth);
                if (unlike[depth] == unlike[depth - 1]) {
                    return;
                }
                restDepth = depth;
            }
        }

        private void setFirstKeys() {
            for (int p = 0; p < net.posts; p++) {
                keys[p] = net.marks[p] * 8L + net.ports[p];
            }
        }

        // A rank takes 4 bits and a port 3: six ports and a rank fit a long. Posts of one rank have
        // as many ports, so a shorter row of ports is never measured against a longer one.
        private void setKeysBehind(int depth) {
            int start = depth * MOST_POSTS;
            for (int p = 0; p < net.posts; p++) {
                long key = table[start + p];
                for (int port = 0; port < net.ports[p]; port++) {
                    int slot = net.across[slotOf(p, port)];
                    key = key << 7 | portOf(slot) << 4 | table[start + postOf(slot)];
                }
                keys[p] = key << 7 * (MOST_PORTS - net.ports[p]);
            }
        }

        private int rankByKeys(int depth) {
            int count = 0;
            for (int p = 0; p < net.posts; p++) {
                count = addUnlikeKey(keys[p], count);
            }
            for (int p = 0; p < net.posts; p++) {
                table[depth * MOST_POSTS + p] = keysBelow(keys[p], count);
            }
            return count;
        }

        private int addUnlikeKey(long key, int count) {
            int place = keysBelow(key, count);
            if (place < count && unlikeKeys[place] == key) {
                return count;
            }
            for (int i = count; i > place; i--) {
                unlikeKeys[i] = unlikeKeys[i - 1];
            }
            unlikeKeys[place] = key;
            return count + 1;
        }

        private int keysBelow(long key, int count) {
            int below = 0;
            while (below < count && unlikeKeys[below] < key) {
                below++;
            }
            return below;
        }
    }

    /** The latest flooding of a net: its words in the order of their coming, and its tree. */
    private static final class Flooding {
        private final Net net;
        boolean there;
        int words;
        final int[] comings = new int[MOST_SLOTS];
        final int[] parentPorts = new int[MOST_POSTS];
        final int[] depths = new int[MOST_POSTS];
        final int[] loads = new int[MOST_POSTS];
        private final boolean[] underWay = new boolean[MOST_SLOTS];
        private int waiting;
        private long draw;

        Flooding(Net net) {
            this.net = net;
        }

        void runFrom(int p, long seed) {
            Arrays.fill(parentPorts, NONE);
            Arrays.fill(depths, NONE);
            Arrays.fill(loads, 0);
            there = true;
            words = 0;
            draw = seed;
            depths[p] = 0;
            sendFrom(p);
            // Each port sends once at most, so there are no more words than slots.
            for (int i = 0; i < MOST_SLOTS && waiting > 0; i++) {
                bringFrom(takeSlot(numberBelow(waiting)));
            }
        }

        private void sendFrom(int p) {
            for (int port = 0; port < net.ports[p]; port++) {
                if (port != parentPorts[p]) {
                    underWay[slotOf(p, port)] = true;
                    waiting++;
                }
            }
        }

        private int numberBelow(int n) {
            draw = draw * 6364136223846793005L + 1442695040888963407L;
            return n > 0 ? (int) ((draw & 0x7fffffffL) / 4096 % n) : 0;
        }

        private int takeSlot(int number) {
            int ahead = number;
            for (int slot = 0; slot < MOST_SLOTS; slot++) {
                if (underWay[slot]) {
                    if (ahead == 0) {
                        underWay[slot] = false;
                        waiting--;
                        return slot;
                    }
                    ahead--;
                }
            }
            return NONE;
        }

        private void bringFrom(int slot) {
            if (slot < 0) {
                return;
            }
            int other = net.across[slot];
            int p = postOf(other);
            comings[words] = p;
            words++;
            loads[p]++;
            if (depths[p] == NONE) {
                parentPorts[p] = portOf(other);
                depths[p] = depths[postOf(slot)] + 1;
                sendFrom(p);
            }
        }
    }

    /** A sheet: nothing, or a row of cells of a lane; its cells are made once and used again. */
    private static final class Sheet {
        boolean there;
        int lane;
        private int size;
        final int[] cells = new int[MOST_CELLS];

        void renew(int newLane, int newSize) {
            there = true;
            lane = newLane;
            size = newSize;
            Arrays.fill(cells, 0);
        }

        boolean holds(int i, long n) {
            return i >= 0 && i <= size && n >= 0 && n <= size - i;
        }
    }
}

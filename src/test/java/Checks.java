import java.util.function.ToLongFunction;

// What the tests share: rows under words of the document, a look at all that an object tells, some nets.
abstract class Checks {
    static final long LOST = Long.MIN_VALUE;
    static final int MAX = Integer.MAX_VALUE;
    static final int MIN = Integer.MIN_VALUE;
    private static String words = "";
    private static int row;
    private static int wrong;

    /** The rows that follow stand for these words of this part of the document. */
    static void under(String part, String quote) {
        words = part + ", \"" + quote + "\"";
        row = 0;
    }

    static void under(String part) {
        words = part;
        row = 0;
    }

    static void due(long got, long want) {
        row++;
        if (got != want) {
            tell("answered " + got + ", due is " + want);
        }
    }

    static void same(String got, String want) {
        row++;
        if (!got.equals(want)) {
            tell("is now " + got + ", due is " + want);
        }
    }

    private static void tell(String what) {
        wrong++;
        System.out.println(words + ", row " + row + ": " + what);
    }

    static void finish(String good) {
        System.out.println(wrong == 0 ? good : wrong + " answers are not as due");
        if (wrong != 0) {
            System.exit(1);
        }
    }

    /** A call that answers so, and behind which all but fault() is as it was. */
    static void changesNothing(AlikePosts x, long want, ToLongFunction<AlikePosts> call) {
        String before = seen(x);
        due(call.applyAsLong(x), want);
        same(seen(x), before);
    }

    /** All that an object tells, but fault(); it takes some 100 calls for a small net. */
    static String seen(AlikePosts x) {
        StringBuilder all = new StringBuilder();
        all.append("trace ").append(x.trace()).append(" lines ").append(x.told(1)).append(" rest ").append(x.rest());
        all.append(" chosen ").append(x.chosen()).append(" posts ");
        for (int p = 0; p < x.told(0); p++) {
            seePost(x, p, all);
        }
        all.append(" words ");
        int came = 0;
        for (int i = 0; (came = x.word(i)) >= 0; i++) {
            all.append(came).append(' ');
        }
        all.append(came);
        for (int k = 0; k < 4; k++) {
            seeSheet(x, k, all);
        }
        return all.toString();
    }

    private static void seePost(AlikePosts x, int p, StringBuilder all) {
        all.append('[');
        for (int what = 0; what < 5; what++) {
            all.append(x.about(p, what)).append(' ');
        }
        for (int port = 0; port < x.about(p, 1); port++) {
            all.append(x.end(p, port, 0)).append('.').append(x.end(p, port, 1)).append(' ');
        }
        for (int what = 0; what < 3; what++) {
            all.append(x.flooded(p, what)).append(' ');
        }
        all.append(']');
    }

    private static void seeSheet(AlikePosts x, int k, StringBuilder all) {
        all.append(" sheet ").append(k).append(':');
        for (int lane = 0; lane < 3; lane++) {
            long cell = x.cell(k, 0, lane);
            int fault = x.fault();
            if (fault == 1) {
                all.append("nothing ");
            }
            if (fault == 0 || fault == 3) {
                all.append("lane ").append(lane);
            }
            for (int i = 1; cell != LOST; i++) {
                all.append(' ').append(cell);
                cell = x.cell(k, i, lane);
            }
        }
    }

    /** Numbers that are none of 0 .. n - 1, some of which would be, if they were cut or went round. */
    static int[] beyond(int n) {
        return new int[] {n, n + 1, -1, -n, MAX, MIN, MIN + 1, 256, 65536, 1 << 30, -(1 << 30)};
    }

    static AlikePosts posts(int... marks) {
        AlikePosts x = new AlikePosts();
        for (int mark : marks) {
            x.post(mark);
        }
        return x;
    }

    /** 0 - 1 - 2 - .. in a row. */
    static AlikePosts path(int n) {
        AlikePosts x = posts(new int[n]);
        for (int p = 0; p + 1 < n; p++) {
            x.line(p, p + 1);
        }
        return x;
    }

    /** A ring in which port 0 leads on and port 1 leads back, at each post: all are alike. */
    static AlikePosts evenRing(int n) {
        AlikePosts x = posts(new int[n]);
        for (int p = 0; p < n; p++) {
            x.line(p, (p + 1) % n);
        }
        for (int p = 1; p < n; p++) {
            x.swap(p, 0, 1);
        }
        return x;
    }

    /** Post 0 with all its six ports, by one line each to posts 1 .. 6. */
    static AlikePosts hub() {
        AlikePosts x = posts(new int[7]);
        for (int p = 1; p < 7; p++) {
            x.line(0, p);
        }
        return x;
    }

    /** Twelve posts whose six ports are all taken: 36 lines. */
    static AlikePosts packed() {
        AlikePosts x = posts(new int[12]);
        for (int p = 0; p < 12; p++) {
            for (int step = 1; step <= 3; step++) {
                x.line(p, (p + step) % 12);
            }
        }
        return x;
    }

    static void fill(AlikePosts x, int k, int lane, int... cells) {
        x.sheet(k, lane, cells.length);
        for (int i = 0; i < cells.length; i++) {
            x.put(k, i, cells[i]);
        }
    }

    static void cells(AlikePosts x, int k, int lane, int... want) {
        for (int i = 0; i < want.length; i++) {
            due(x.cell(k, i, lane), want[i]);
        }
    }
}

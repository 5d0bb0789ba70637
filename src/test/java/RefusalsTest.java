import java.util.function.ToLongFunction;

// What the Terms say of refusals and faults, for each call that has some: the order of those that
// are told on one line, that they change nothing, and what fault() tells behind them.
public final class RefusalsTest extends Checks {
    private static final String ORDER = "of several the first in the order in which a call's line tells them";
    private static final String NOTHING = "They change nothing (but fault(), of a call that names FAULTS)";

    public static void main(String[] args) {
        unknownOfNets();
        unknownOfRanksAndFloods();
        unknownOfSheetsAndParts();
        unknownWithoutPosts();
        orderOfNets();
        orderOfRanksAndFloods();
        orderOfSheetsAndParts();
        orderOfFaults();
        orderOfFaultsOfLines();
        refusalsOfNetsChangeNothing();
        fullChangesNothing();
        refusalsOfFloodsChangeNothing();
        refusalsOfSheetsChangeNothing();
        faultsChangeNothing();
        faultsAnswerAndAreTold();
        refusedCallsThatNameFaults();
        goodCallsThatNameFaults();
        callsThatNameNoFaults();
        finish("refusals and faults are kept");
    }

    // Something of all: posts 0 - 1 = 2, sheets of each lane and one with nothing, a flooding, a trace.
    private static AlikePosts used() {
        AlikePosts x = posts(0, 5, 0);
        x.line(0, 1);
        x.line(1, 2);
        x.line(2, 1);
        fill(x, 0, 0, 0, 1, 2);
        fill(x, 2, 2, 0, 9, 2, 0);
        x.sheet(3, 1, 0);
        x.tell(1);
        x.flood(1, 5);
        return x;
    }

    private static void idle(long want, ToLongFunction<AlikePosts> call) {
        changesNothing(used(), want, call);
    }

    private static void unknownOfNets() {
        under("Terms", "UNKNOWN (there is no such POST, PORT, SHEET, place)");
        for (int p : beyond(3)) {
            idle(-1, x -> x.mark(p, 0));
            idle(-1, x -> x.line(p, 0));
            idle(-1, x -> x.line(0, p));
            idle(-1, x -> x.line(p, p));
            idle(-1, x -> x.swap(p, 0, 0));
            idle(-1, x -> x.end(p, 0, 0));
            idle(-1, x -> x.doubled(p, 0));
            idle(-1, x -> x.about(p, 0));
        }
        for (int port : beyond(2)) {
            idle(-1, x -> x.swap(2, port, 0));
            idle(-1, x -> x.swap(2, 0, port));
            idle(-1, x -> x.swap(2, port, port));
            idle(-1, x -> x.end(2, port, 0));
            idle(-1, x -> x.doubled(2, port));
        }
        for (int k : beyond(4)) {
            idle(-1, x -> x.lines(k, 0, 0, 0));
        }
    }

    private static void unknownOfRanksAndFloods() {
        under("Terms", "UNKNOWN (there is no such POST, PORT, SHEET, place)");
        for (int p : beyond(3)) {
            idle(-1, x -> x.rank(p, 0));
            idle(-1, x -> x.apart(p, 0));
            idle(-1, x -> x.apart(0, p));
            idle(-1, x -> x.apart(p, p));
            idle(-1, x -> x.flood(p, 0));
            idle(-1, x -> x.flooded(p, 0));
        }
        // From post 1 by three ports; each other post sends none or one.
        int words = used().flood(1, 5);
        due(words, 4);
        due(used().word(3) >= 0 ? 1 : 0, 1);
        for (int i : beyond(words)) {
            idle(-1, x -> x.word(i));
        }
    }

    private static void unknownOfSheetsAndParts() {
        under("Terms", "UNKNOWN (there is no such POST, PORT, SHEET, place)");
        for (int k : beyond(4)) {
            idle(-1, x -> x.sheet(k, 0, 0));
            idle(-1, x -> x.lose(k));
            idle(-1, x -> x.put(k, 0, 0));
            idle(LOST, x -> x.cell(k, 0, 0));
            idle(-1, x -> x.copy(k, 0, 0, 0, 0));
            idle(-1, x -> x.copy(0, 0, k, 0, 0));
            idle(-1, x -> x.copy(k, 0, k, 0, 0));
        }
        for (int p : beyond(3)) {
            idle(-1, x -> x.tell(p));
            idle(-1, x -> x.hear(p));
            idle(-1, x -> x.as(p, 0));
        }
    }

    private static void unknownWithoutPosts() {
        under("Terms", "UNKNOWN (there is no such POST, PORT, SHEET, place)");
        AlikePosts x = used();
        x.clear();
        for (int p = 0; p < 3; p++) {
            due(x.mark(p, 0), -1);
            due(x.line(p, 0), -1);
            due(x.swap(p, 0, 0), -1);
            due(x.end(p, 0, 0), -1);
            due(x.doubled(p, 0), -1);
            due(x.about(p, 4), -1);
            due(x.rank(p, 0), -1);
            due(x.apart(p, p), -1);
            due(x.flood(p, 0), -1);
            due(x.tell(p), -1);
            due(x.hear(p), -1);
            due(x.as(p, 0), -1);
        }
        due(x.lines(0, 0, 0, 1), -1);
        due(x.lines(0, 0, 0, 0), 0);
        // A post has no ports until lines come again.
        x.post(0);
        due(x.end(0, 0, 0), -1);
        due(x.swap(0, 0, 0), -1);
        due(x.doubled(0, 0), -1);
    }

    private static void orderOfNets() {
        under("Terms", ORDER);
        AlikePosts full = posts(new int[12]);
        due(full.post(10), -2);
        due(full.post(-1), -2);
        idle(-1, x -> x.mark(3, 10));
        idle(-1, x -> x.mark(-1, -1));
        AlikePosts hub = hub();
        due(hub.line(7, 0), -1);
        due(hub.line(0, 7), -1);
        due(hub.line(0, 0), -2);
        due(hub.doubled(0, 6), -1);
        due(hub.doubled(7, 0), -1);
        due(hub.doubled(0, 5), -4);
        idle(-1, x -> x.end(3, 0, 2));
        idle(-1, x -> x.end(0, 1, 2));
        idle(-1, x -> x.about(3, 5));
    }

    private static void orderOfRanksAndFloods() {
        under("Terms", ORDER);
        idle(-1, x -> x.rank(3, 21));
        idle(-1, x -> x.rank(-1, -1));
        idle(-1, x -> x.flooded(3, 3));
        due(path(3).flooded(3, 3), -3);
        due(path(3).flooded(0, 3), -3);
        due(path(3).word(-1), -3);
        due(new AlikePosts().flooded(-1, 0), -3);
        due(new AlikePosts().ranks(21), -2);
        due(new AlikePosts().lots(0, 0), LOST);
    }

    private static void orderOfSheetsAndParts() {
        under("Terms", ORDER);
        idle(-1, x -> x.sheet(4, 3, -1));
        idle(-1, x -> x.sheet(4, 0, 61));
        idle(-2, x -> x.sheet(0, 3, -1));
        idle(-14, x -> x.sheet(0, 2, -1));
        idle(-1, x -> x.as(3, 3));
        idle(-1, x -> x.as(3, 2));
        idle(-2, x -> x.as(1, 3));
        idle(-1, x -> x.copy(4, -1, 1, -1, -1));
        idle(-1, x -> x.copy(1, -1, 4, -1, -1));
        idle(-1, x -> x.put(4, -1, 0));
    }

    private static void metByCell(int k, int i, int lane, int fault) {
        AlikePosts x = used();
        x.put(1, 0, 0);
        due(x.cell(k, i, lane), LOST);
        due(x.fault(), fault);
    }

    private static void orderOfFaults() {
        under("Terms", "Of a call the first that is come to, in the order told");
        // put: UNKNOWN; NULL; INDEX.
        idle(-11, x -> x.put(1, -1, 0));
        idle(-11, x -> x.put(1, MAX, 0));
        // cell: UNKNOWN, OUTSIDE; CAST (nothing is no CAST), NULL, INDEX.
        metByCell(4, -1, 3, 0);
        metByCell(1, -1, 3, 0);
        metByCell(0, -1, 3, 0);
        for (int lane = 0; lane < 3; lane++) {
            metByCell(1, -1, lane, 1);
            metByCell(0, 3, lane, lane == 0 ? 3 : 2);
            metByCell(3, -1, lane, lane == 1 ? 3 : 2);
            metByCell(2, 4, lane, lane == 2 ? 3 : 2);
        }
        // copy: UNKNOWN; NULL (the first, the other), CAST, INDEX.
        idle(-11, x -> x.copy(1, -1, 0, -1, -1));
        idle(-11, x -> x.copy(0, -1, 1, -1, -1));
        idle(-11, x -> x.copy(1, -1, 1, -1, -1));
        idle(-12, x -> x.copy(0, -1, 2, -1, -1));
        idle(-12, x -> x.copy(3, 9, 2, 9, 9));
        idle(-13, x -> x.copy(0, -1, 0, -1, -1));
    }

    private static void orderOfFaultsOfLines() {
        under("Promise 6", "UNKNOWN: SHEET; OUTSIDE: lane; CAST (nothing is no CAST); NULL; SIZE: n below 0; INDEX");
        idle(-1, x -> x.lines(4, 3, -1, -1));
        idle(-2, x -> x.lines(1, 3, -1, -1));
        idle(-2, x -> x.lines(0, -1, -1, -1));
        for (int lane = 0; lane < 3; lane++) {
            int asLane = lane;
            idle(-11, x -> x.lines(1, asLane, -1, -1));
            idle(lane == 0 ? -14 : -12, x -> x.lines(0, asLane, -1, -1));
            idle(lane == 1 ? -13 : -12, x -> x.lines(3, asLane, -1, 0));
        }
        idle(-14, x -> x.lines(2, 2, 5, -1));
        // Cell 1 is no post, and cells 3 and 4 are not all there: the row is looked at first.
        idle(-13, x -> x.lines(2, 2, 1, 2));
        idle(-1, x -> x.lines(2, 2, 1, 1));
        idle(-1, x -> x.lines(2, 2, 0, 2));
    }

    private static void refusalsOfNetsChangeNothing() {
        under("Terms", NOTHING);
        for (int mark : beyond(10)) {
            idle(-2, x -> x.post(mark));
            idle(-2, x -> x.mark(0, mark));
        }
        for (int p = 0; p < 3; p++) {
            int one = p;
            idle(-2, x -> x.line(one, one));
        }
        for (int lane : beyond(3)) {
            idle(-2, x -> x.lines(0, lane, 0, 1));
        }
        for (int what : beyond(2)) {
            idle(-2, x -> x.end(0, 0, what));
        }
        for (int what : beyond(5)) {
            idle(-2, x -> x.about(0, what));
            idle(-2, x -> x.told(what));
        }
    }

    private static void fullChangesNothing() {
        under("Terms", NOTHING);
        AlikePosts twelve = posts(new int[12]);
        twelve.flood(0, 0);
        changesNothing(twelve, -4, x -> x.post(0));
        AlikePosts hub = hub();
        hub.flood(0, 0);
        changesNothing(hub, -4, x -> x.line(0, 3));
        changesNothing(hub, -4, x -> x.doubled(3, 0));
        AlikePosts two = hub();
        two.flood(3, 0);
        changesNothing(two, -4, x -> x.line(3, 0));
        fill(two, 0, 2, 1, 2, 2, 3, 3, 0);
        changesNothing(two, -4, x -> x.lines(0, 2, 0, 3));
        due(two.lines(0, 2, 0, 2), 8);
    }

    private static void refusalsOfFloodsChangeNothing() {
        under("Terms", NOTHING);
        for (int depth : beyond(21)) {
            idle(-2, x -> x.rank(0, depth));
            idle(-2, x -> x.ranks(depth));
        }
        for (int what : beyond(3)) {
            idle(-2, x -> x.flooded(0, what));
            idle(LOST, x -> x.lots(2, what));
        }
        for (int k : new int[] {0, -1, 7, MAX, MIN, 257, 65537}) {
            idle(LOST, x -> x.lots(k, 0));
        }
        changesNothing(new AlikePosts(), -3, x -> x.rest());
        changesNothing(new AlikePosts(), -3, x -> x.flooded(0, 0));
        changesNothing(new AlikePosts(), -3, x -> x.word(0));
        changesNothing(new AlikePosts(), LOST, x -> x.lots(2, 0));
    }

    private static void refusalsOfSheetsChangeNothing() {
        under("Terms", NOTHING);
        for (int lane : beyond(3)) {
            idle(-2, x -> x.sheet(0, lane, 1));
            idle(-2, x -> x.sheet(1, lane, 1));
            idle(LOST, x -> x.cell(0, 0, lane));
        }
        for (int n : new int[] {61, 62, 256, 65536, MAX}) {
            idle(-2, x -> x.sheet(0, 0, n));
            idle(-2, x -> x.sheet(1, 0, n));
        }
        for (int kind : beyond(3)) {
            idle(-2, x -> x.as(0, kind));
        }
    }

    private static void faultsChangeNothing() {
        under("Terms", "it answers -10 less it (LOST, where a long is answered, as for refusals) and changes nothing");
        for (int n : new int[] {-1, -61, MIN, MIN + 1}) {
            idle(-14, x -> x.sheet(0, 0, n));
            idle(-14, x -> x.sheet(1, 0, n));
            idle(-14, x -> x.lines(0, 0, 0, n));
            idle(-13, x -> x.copy(0, 0, 0, 0, n));
        }
        for (int i : beyond(3)) {
            idle(-13, x -> x.put(0, i, 7));
            idle(LOST, x -> x.cell(0, i, 0));
            idle(-13, x -> x.lines(0, 0, i, 1));
            idle(-13, x -> x.copy(0, i, 0, 0, 1));
            idle(-13, x -> x.copy(0, 0, 0, i, 1));
        }
        idle(-11, x -> x.put(1, 0, 7));
        idle(LOST, x -> x.cell(1, 0, 0));
        idle(-11, x -> x.lines(1, 0, 0, 0));
        idle(-12, x -> x.lines(0, 1, 0, 1));
        idle(-11, x -> x.copy(1, 0, 0, 0, 1));
        idle(-11, x -> x.copy(0, 0, 1, 0, 1));
        idle(-12, x -> x.copy(2, 0, 0, 0, 1));
        idle(LOST, x -> x.cell(0, 0, 1));
        idle(-12, x -> x.as(1, 2));
    }

    private static void comesTo(int fault, ToLongFunction<AlikePosts> call) {
        AlikePosts x = used();
        due(call.applyAsLong(x), -10 - fault);
        due(x.fault(), fault);
        due(x.fault(), fault);
    }

    private static void faultsAnswerAndAreTold() {
        under("Terms", "FAULTS are the machine's: 1 NULL (there is nothing), 2 CAST (it is of another LANE, kind), 3 INDEX, 4 SIZE (a length below 0)");
        comesTo(1, x -> x.put(1, 0, 0));
        comesTo(1, x -> x.lines(1, 0, 0, 0));
        comesTo(1, x -> x.copy(1, 0, 0, 0, 0));
        comesTo(1, x -> x.copy(0, 0, 1, 0, 0));
        comesTo(2, x -> x.lines(0, 1, 0, 0));
        comesTo(2, x -> x.copy(0, 0, 2, 0, 0));
        comesTo(2, x -> x.as(2, 2));
        comesTo(3, x -> x.put(0, 3, 0));
        comesTo(3, x -> x.lines(0, 0, 0, 2));
        comesTo(3, x -> x.copy(0, 0, 0, 3, 1));
        comesTo(4, x -> x.lines(0, 0, 0, -1));
        comesTo(4, x -> x.sheet(0, 0, -1));
        under("Promise 24", "LOST: UNKNOWN, OUTSIDE: lane; FAULTS CAST (nothing is no CAST), NULL, INDEX");
        metByCell(1, 0, 0, 1);
        metByCell(0, 0, 2, 2);
        metByCell(0, 3, 0, 3);
    }

    // fault() is 1 ahead of the call.
    private static void faultBehind(int want, long answer, ToLongFunction<AlikePosts> call) {
        AlikePosts x = used();
        x.put(1, 0, 0);
        due(x.fault(), 1);
        due(call.applyAsLong(x), answer);
        due(x.fault(), want);
    }

    private static void refusedCallsThatNameFaults() {
        under("Promise 30", "it came to none, or was refused");
        faultBehind(0, -1, x -> x.lines(4, 0, 0, 0));
        faultBehind(0, -2, x -> x.lines(0, 3, 0, 0));
        faultBehind(0, -1, x -> x.lines(2, 2, 0, 1));
        faultBehind(0, -1, x -> x.sheet(4, 0, 0));
        faultBehind(0, -2, x -> x.sheet(0, 3, 0));
        faultBehind(0, -2, x -> x.sheet(0, 0, 61));
        faultBehind(0, -1, x -> x.put(4, 0, 0));
        faultBehind(0, LOST, x -> x.cell(4, 0, 0));
        faultBehind(0, LOST, x -> x.cell(0, 0, 3));
        faultBehind(0, -1, x -> x.copy(4, 0, 0, 0, 0));
        faultBehind(0, -1, x -> x.copy(0, 0, 4, 0, 0));
        faultBehind(0, -1, x -> x.as(3, 0));
        faultBehind(0, -2, x -> x.as(0, 3));
        AlikePosts full = hub();
        fill(full, 0, 0, 0, 1, 3, 3);
        full.as(0, 2);
        due(full.fault(), 2);
        due(full.lines(0, 0, 0, 1), -4);
        due(full.fault(), 0);
        full.as(0, 2);
        due(full.lines(0, 0, 2, 1), -2);
        due(full.fault(), 0);
    }

    private static void goodCallsThatNameFaults() {
        under("Promise 30", "it came to none, or was refused");
        faultBehind(0, 3, x -> x.lines(0, 0, 0, 0));
        faultBehind(0, 4, x -> x.lines(0, 0, 1, 1));
        faultBehind(0, 1, x -> x.sheet(1, 0, 0));
        faultBehind(0, 1, x -> x.put(0, 0, 0));
        faultBehind(0, 0, x -> x.cell(0, 0, 0));
        faultBehind(0, 0, x -> x.copy(0, 3, 0, 3, 0));
        faultBehind(0, 1, x -> x.as(0, 2));
        // A later fault takes the place of an earlier one.
        faultBehind(4, -14, x -> x.sheet(0, 0, -1));
        faultBehind(3, -13, x -> x.put(0, 3, 0));
        faultBehind(2, -12, x -> x.as(1, 2));
        due(new AlikePosts().fault(), 0);
    }

    private static void callsThatNameNoFaults() {
        under("Promise 30", "The FAULT of the latest call that names one");
        faultBehind(1, 3, x -> x.clear());
        faultBehind(1, 3, x -> x.post(0));
        faultBehind(1, -2, x -> x.post(10));
        faultBehind(1, 0, x -> x.mark(0, 1));
        faultBehind(1, 4, x -> x.line(0, 1));
        faultBehind(1, -2, x -> x.line(0, 0));
        faultBehind(1, 0, x -> x.swap(0, 0, 0));
        faultBehind(1, -1, x -> x.end(3, 0, 0));
        faultBehind(1, 6, x -> x.doubled(0, 0));
        faultBehind(1, -2, x -> x.about(0, 5));
        faultBehind(1, 1, x -> x.together());
        faultBehind(1, -1, x -> x.rank(3, 0));
        faultBehind(1, 0, x -> x.rest() - used().rest());
        faultBehind(1, -2, x -> x.ranks(21));
        faultBehind(1, -1, x -> x.apart(3, 0));
        faultBehind(1, 0, x -> x.chosen());
        faultBehind(1, -1, x -> x.flood(3, 0));
        faultBehind(1, -1, x -> x.flooded(3, 0));
        faultBehind(1, -1, x -> x.word(-1));
        faultBehind(1, LOST, x -> x.lots(7, 0));
        faultBehind(1, -1, x -> x.lose(4));
        faultBehind(1, 0, x -> x.lose(1));
        faultBehind(1, -1, x -> x.tell(3));
        faultBehind(1, -1, x -> x.hear(3));
        faultBehind(1, -2, x -> x.told(5));
        faultBehind(1, 3, x -> x.told(0));
    }
}

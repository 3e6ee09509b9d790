import java.util.List;
import java.util.NoSuchElementException;

/**
 * Refused calls. Each refusal is asked for with the first number outside a range and with numbers far outside it;
 * of two that would both hold the first one of the document's list is due; and afterwards every call must answer
 * as it does on a twin that has not been asked.
 */
public final class BatchSavingsRefusals {
    private static final Class<?> MISSING = NoSuchElementException.class;
    private static final Class<?> ARGUMENT = IllegalArgumentException.class;
    private static final Class<?> STATE = IllegalStateException.class;
    private static final Class<?> ROOM = UnsupportedOperationException.class;
    private static final Class<?> ARITHMETIC = ArithmeticException.class;
    private static final List<Class<?>> DOCUMENTED = List.of(MISSING, ARGUMENT, STATE, ROOM, ARITHMETIC);
    private static final int LOWEST = Integer.MIN_VALUE;
    private static final int HIGHEST = Integer.MAX_VALUE;

    private static final Scene EMPTY = new Scene("empty", BatchSavings::new, 0, 0);
    private static final Scene NO_BATCH = new Scene("no batch", BatchSavingsRefusals::noBatch, 3, 0);
    private static final Scene BUSY = new Scene("busy", BatchSavingsRefusals::busy, 8, 2);
    private static final Scene FULL = new Scene("full", BatchSavingsRefusals::full, 10, 10);
    private static final Scene TIGHT = new Scene("tight", BatchSavingsRefusals::tight, 10, 10);
    private static final Scene[] SCENES = {EMPTY, NO_BATCH, BUSY, FULL, TIGHT};

    private static String test = "";
    private static int tests = 0;
    private static int checks = 0;
    private static int wrong = 0;

    private interface Maker {
        BatchSavings make();
    }

    private interface Call {
        Object on(BatchSavings x);
    }

    private interface CallWith {
        Object on(BatchSavings x, int number);
    }

    /** How an object comes to be, with how many orders and batches it has then. */
    private record Scene(String name, Maker maker, int orders, int batches) {
    }

    public static void main(String[] args) {
        test("the scenes are what the tests take them for", BatchSavingsRefusals::scenes);
        test("2 order: seconds 1 .. 10000", BatchSavingsRefusals::orderSeconds);
        test("2 order: size 1 .. 100", BatchSavingsRefusals::orderSize);
        test("2 order: zone 0 .. 3", BatchSavingsRefusals::orderZone);
        test("2 order: at most 10", BatchSavingsRefusals::orderRoom);
        test("2 order: a number outside its range before no room", BatchSavingsRefusals::orderInTurn);
        test("3 joined: an order that there is not", BatchSavingsRefusals::joinedMissing);
        test("3 joined: seconds 0 .. 20000", BatchSavingsRefusals::joinedSeconds);
        test("3 joined: also if they are the same", BatchSavingsRefusals::joinedSame);
        test("3 joined: no such order before a number outside its range", BatchSavingsRefusals::joinedInTurn);
        test("4 saving: an order that there is not", BatchSavingsRefusals::savingMissing);
        test("4 saving: they are the same", BatchSavingsRefusals::savingSame);
        test("4 saving: no such order before the same", BatchSavingsRefusals::savingInTurn);
        test("5 rule: an order that there is not", BatchSavingsRefusals::ruleMissing);
        test("5 rule: they are the same", BatchSavingsRefusals::ruleSame);
        test("5 rule: no such order before the same", BatchSavingsRefusals::ruleInTurn);
        test("6 weight: an order that there is not", BatchSavingsRefusals::weightMissing);
        test("6 weight: 0 .. 1000", BatchSavingsRefusals::weightRange);
        test("6 weight: it is not free", BatchSavingsRefusals::weightNotFree);
        test("6 weight: no such order, outside its range, not free, above the limit", BatchSavingsRefusals::weightInTurn);
        test("6 weight: false, and it stays as it is, if it is above the limit", BatchSavingsRefusals::weightAbove);
        test("7 near: zones 0 .. 3", BatchSavingsRefusals::nearZones);
        test("7 near: also if they are the same", BatchSavingsRefusals::nearSame);
        test("8 limit: weight 0 .. 4000", BatchSavingsRefusals::limitWeight);
        test("8 limit: size 1 .. 400", BatchSavingsRefusals::limitSize);
        test("9 match: most 0 .. 10", BatchSavingsRefusals::matchMost);
        test("11 with: an order that there is not", BatchSavingsRefusals::withMissing);
        test("12 open: an order that there is not", BatchSavingsRefusals::openMissing);
        test("12 open: it is not free", BatchSavingsRefusals::openNotFree);
        test("12 open: no room, at most 10 batches", BatchSavingsRefusals::openRoom);
        test("12 open: no such order before no room, not free before no room", BatchSavingsRefusals::openInTurn);
        test("13 join: an order that there is not", BatchSavingsRefusals::joinMissingOrder);
        test("13 join: a batch that there is not", BatchSavingsRefusals::joinMissingBatch);
        test("13 join: it is not free", BatchSavingsRefusals::joinNotFree);
        test("13 join: they may not be together, as a set", BatchSavingsRefusals::joinNotTogether);
        test("13 join: the saving with the last one is below 0", BatchSavingsRefusals::joinSavingBelow);
        test("13 join: it has four", BatchSavingsRefusals::joinRoom);
        test("13 join: no such order or batch before not as it is now", BatchSavingsRefusals::joinMissingFirst);
        test("13 join: not as it is now before no room", BatchSavingsRefusals::joinStateFirst);
        test("14 leave: an order that there is not", BatchSavingsRefusals::leaveMissing);
        test("14 leave: it is free", BatchSavingsRefusals::leaveFree);
        test("15 batch: an order that there is not", BatchSavingsRefusals::batchMissing);
        test("16 told: a batch that there is not", BatchSavingsRefusals::toldMissing);
        test("16 told: no such what", BatchSavingsRefusals::toldWhat);
        test("16 told: (0) no such i", BatchSavingsRefusals::toldNoSuchI);
        test("16 told: no such batch before no such what and no such i", BatchSavingsRefusals::toldInTurn);
        test("17 best: an order that there is not", BatchSavingsRefusals::bestMissing);
        test("17 best: it is not free", BatchSavingsRefusals::bestNotFree);
        test("18 share: one is below 0, or part above 1000000", BatchSavingsRefusals::shareRange);
        test("18 share: all is 0", BatchSavingsRefusals::shareOfNothing);
        test("18 share: a number outside its range before all is 0", BatchSavingsRefusals::shareInTurn);
        test("19 mean: there are none", BatchSavingsRefusals::meanOfNone);
        test("questions change nothing", BatchSavingsRefusals::questions);
        System.out.println(tests + " tests, " + checks + " checks, " + wrong + " wrong");
        if (wrong != 0) {
            System.exit(1);
        }
    }

    // The scenes.

    private static BatchSavings noBatch() {
        BatchSavings x = new BatchSavings();
        x.order(100, 10, 0);
        x.order(100, 10, 0);
        x.order(100, 10, 1);
        x.joined(0, 1, 150);
        return x;
    }

    /** Batch 0 has orders 0 and 1, batch 1 none; 2 and 3, 4 and 5 are pairs, 6 and 7 free and alone. */
    private static BatchSavings busy() {
        BatchSavings x = new BatchSavings();
        for (int order = 0; order < 8; order++) {
            x.order(100, 10, order / 2);
        }
        x.near(0, 1, true);
        x.near(2, 1, true);
        x.limit(500, 35);
        for (int order = 0; order < 8; order++) {
            x.weight(order, 50 + order);
        }
        x.joined(0, 1, 170);
        x.joined(2, 3, 160);
        x.joined(4, 5, 150);
        x.joined(0, 2, 175);
        x.joined(1, 2, 201);
        x.joined(6, 7, 205);
        x.rule(0, 3, true);
        x.match(10);
        x.open(0);
        x.open(6);
        x.leave(6);
        return x;
    }

    /**
     * Ten orders, ten batches: batch 0 has four (0 .. 3), batch 9 one, the others none. 4 is barred for 0, the
     * saving of 5 with 3 is below 0, 7 is too heavy for batch 0, 8 in another zone; 6 would be fine but for the room.
     * 4 and 5, 6 and 7 are pairs.
     */
    private static BatchSavings full() {
        BatchSavings x = new BatchSavings();
        for (int order = 0; order < 10; order++) {
            x.order(200, 10, order == 8 ? 1 : 0);
        }
        x.limit(1500, 400);
        for (int order = 0; order < 10; order++) {
            x.weight(order, order < 4 ? 200 : 0);
            x.open(order);
        }
        for (int order = 1; order < 9; order++) {
            x.leave(order);
        }
        for (int order = 1; order < 4; order++) {
            x.join(order, 0);
        }
        x.weight(7, 1000);
        x.rule(0, 4, true);
        x.joined(3, 5, 401);
        x.joined(4, 5, 390);
        x.joined(5, 6, 395);
        x.joined(6, 7, 399);
        x.match(0);
        return x;
    }

    /** As full, but at the limit of size: four are just within it. */
    private static BatchSavings tight() {
        BatchSavings x = full();
        x.limit(1500, 40);
        return x;
    }

    private static void scenes() {
        for (Scene scene : SCENES) {
            BatchSavings x = scene.maker.make();
            same(scene.name + " orders", scene.orders, x.count(0));
            same(scene.name + " batches", scene.batches, x.count(1));
        }
        BatchSavings busy = busy();
        same("busy: free", 6, busy.count(2));
        same("busy: pairs", 2, busy.count(3));
        same("busy: exact", true, busy.exact());
        same("busy: batch 0", 170, busy.told(0, 0, 1));
        same("busy: batch 1", 0, busy.told(1, 0, 1));
        BatchSavings full = full();
        same("full: free", 5, full.count(2));
        same("full: pairs", 2, full.count(3));
        same("full: by rule", false, full.exact());
        same("full: batch 0", 800, full.told(0, 0, 1));
        same("full: batch 9", 200, full.told(9, 0, 1));
    }

    // 2 order

    private static void orderSeconds() {
        inside(BUSY, "seconds", 1, 10000, (x, n) -> x.order(n, 10, 0));
        outside(BUSY, "seconds", 1, 10000, (x, n) -> x.order(n, 10, 0));
        outside(EMPTY, "seconds", 1, 10000, (x, n) -> x.order(n, 10, 0));
    }

    private static void orderSize() {
        inside(BUSY, "size", 1, 100, (x, n) -> x.order(10, n, 0));
        outside(BUSY, "size", 1, 100, (x, n) -> x.order(10, n, 0));
        outside(EMPTY, "size", 1, 100, (x, n) -> x.order(10, n, 0));
    }

    private static void orderZone() {
        inside(BUSY, "zone", 0, 3, (x, n) -> x.order(10, 10, n));
        outside(BUSY, "zone", 0, 3, (x, n) -> x.order(10, 10, n));
        outside(EMPTY, "zone", 0, 3, (x, n) -> x.order(10, 10, n));
    }

    private static void orderRoom() {
        BatchSavings x = busy();
        same("the ninth", 8, x.order(10, 10, 0));
        same("the tenth", 9, x.order(10, 10, 0));
        refused(FULL, "the eleventh", ROOM, y -> y.order(10, 10, 0));
        refused(FULL, "the eleventh at the least", ROOM, y -> y.order(1, 1, 0));
        refused(FULL, "the eleventh at the most", ROOM, y -> y.order(10000, 100, 3));
    }

    private static void orderInTurn() {
        outside(FULL, "seconds", 1, 10000, (x, n) -> x.order(n, 10, 0));
        outside(FULL, "size", 1, 100, (x, n) -> x.order(10, n, 0));
        outside(FULL, "zone", 0, 3, (x, n) -> x.order(10, 10, n));
    }

    // 3 joined

    private static void joinedMissing() {
        missingOrders("first", (x, n) -> x.joined(n, 0, 150));
        missingOrders("second", (x, n) -> x.joined(0, n, 150));
    }

    private static void joinedSeconds() {
        inside(BUSY, "seconds", 0, 20000, (x, n) -> x.joined(0, 1, n));
        outside(BUSY, "seconds", 0, 20000, (x, n) -> x.joined(0, 1, n));
        outside(BUSY, "seconds of two that have none", 0, 20000, (x, n) -> x.joined(3, 6, n));
    }

    private static void joinedSame() {
        for (int order = 0; order < 8; order++) {
            int asked = order;
            refused(BUSY, "order " + order, ARGUMENT, x -> x.joined(asked, asked, 150));
        }
        refused(BUSY, "the same, and seconds below", ARGUMENT, x -> x.joined(2, 2, -1));
    }

    private static void joinedInTurn() {
        missingOrders("both, the same", (x, n) -> x.joined(n, n, 150));
        missingOrders("first, and seconds below", (x, n) -> x.joined(n, 0, -1));
        missingOrders("second, and seconds below", (x, n) -> x.joined(0, n, -1));
        missingOrders("first, and seconds above", (x, n) -> x.joined(n, 0, 20001));
        missingOrders("second, and seconds above", (x, n) -> x.joined(0, n, 20001));
    }

    // 4 saving

    private static void savingMissing() {
        missingOrders("first", (x, n) -> x.saving(n, 0));
        missingOrders("second", (x, n) -> x.saving(0, n));
    }

    private static void savingSame() {
        for (int order = 0; order < 8; order++) {
            int asked = order;
            refused(BUSY, "order " + order, ARGUMENT, x -> x.saving(asked, asked));
        }
    }

    private static void savingInTurn() {
        missingOrders("both, the same", (x, n) -> x.saving(n, n));
    }

    // 5 rule

    private static void ruleMissing() {
        for (boolean barred : new boolean[] {true, false}) {
            missingOrders("first " + barred, (x, n) -> x.rule(n, 0, barred));
            missingOrders("second " + barred, (x, n) -> x.rule(0, n, barred));
        }
    }

    private static void ruleSame() {
        for (int order = 0; order < 8; order++) {
            int asked = order;
            refused(BUSY, "barred " + order, ARGUMENT, x -> x.rule(asked, asked, true));
            refused(BUSY, "not barred " + order, ARGUMENT, x -> x.rule(asked, asked, false));
        }
    }

    private static void ruleInTurn() {
        missingOrders("both, the same", (x, n) -> x.rule(n, n, true));
    }

    // 6 weight

    private static void weightMissing() {
        missingOrders("order", (x, n) -> x.weight(n, 5));
    }

    private static void weightRange() {
        inside(NO_BATCH, "weight", 0, 1000, (x, n) -> x.weight(1, n));
        outside(NO_BATCH, "weight", 0, 1000, (x, n) -> x.weight(1, n));
        outside(BUSY, "weight", 0, 1000, (x, n) -> x.weight(7, n));
    }

    private static void weightNotFree() {
        refused(BUSY, "first of a batch", STATE, x -> x.weight(0, 5));
        refused(BUSY, "last of a batch", STATE, x -> x.weight(1, 5));
        refused(BUSY, "the weight that it has", STATE, x -> x.weight(1, 51));
        refused(FULL, "alone in a batch", STATE, x -> x.weight(9, 5));
    }

    private static void weightInTurn() {
        missingOrders("order, and weight below", (x, n) -> x.weight(n, -1));
        missingOrders("order, and weight above", (x, n) -> x.weight(n, 1001));
        outside(BUSY, "weight, and not free", 0, 1000, (x, n) -> x.weight(0, n));
        refused(BUSY, "not free, and above the limit", STATE, x -> x.weight(0, 501));
        missingOrders("order, and above the limit", (x, n) -> x.weight(n, 501));
    }

    private static void weightAbove() {
        unchanged(BUSY, "above", false, x -> x.weight(2, 501));
        unchanged(BUSY, "far above", false, x -> x.weight(2, 1000));
        unchanged(BUSY, "the weight that it has", true, x -> x.weight(2, 52));
        BatchSavings x = busy();
        same("at the limit", true, x.weight(2, 500));
        x.limit(0, 35);
        same("limit 0, weight 1", false, x.weight(3, 1));
        same("limit 0, weight 0", true, x.weight(3, 0));
        x.limit(4000, 35);
        same("limit 4000, the most", true, x.weight(3, 1000));
    }

    // 7 near

    private static void nearZones() {
        for (boolean on : new boolean[] {true, false}) {
            inside(BUSY, "zone " + on, 0, 2, (x, n) -> near(x, n, 3, on));
            inside(BUSY, "other " + on, 1, 3, (x, n) -> near(x, 0, n, on));
            outside(BUSY, "zone " + on, 0, 3, (x, n) -> near(x, n, 3, on));
            outside(BUSY, "other " + on, 0, 3, (x, n) -> near(x, 0, n, on));
            outside(EMPTY, "zone " + on, 0, 3, (x, n) -> near(x, n, 3, on));
            outside(EMPTY, "other " + on, 0, 3, (x, n) -> near(x, 0, n, on));
            outside(BUSY, "both " + on, 0, 3, (x, n) -> near(x, n, n, on));
        }
    }

    private static void nearSame() {
        for (int zone = 0; zone < 4; zone++) {
            int asked = zone;
            for (Scene scene : SCENES) {
                refused(scene, "zone " + zone + " not near to itself", ARGUMENT, x -> near(x, asked, asked, false));
                refused(scene, "zone " + zone + " near to itself", ARGUMENT, x -> near(x, asked, asked, true));
            }
        }
    }

    // 8 limit

    private static void limitWeight() {
        inside(BUSY, "weight", 0, 4000, (x, n) -> x.limit(n, 15));
        outside(BUSY, "weight", 0, 4000, (x, n) -> x.limit(n, 15));
        outside(EMPTY, "weight", 0, 4000, (x, n) -> x.limit(n, 15));
    }

    private static void limitSize() {
        inside(BUSY, "size", 1, 400, (x, n) -> x.limit(100, n));
        outside(BUSY, "size", 1, 400, (x, n) -> x.limit(100, n));
        outside(EMPTY, "size", 1, 400, (x, n) -> x.limit(100, n));
    }

    // 9 match, 11 with

    private static void matchMost() {
        for (Scene scene : SCENES) {
            inside(scene, "most", 0, 10, (x, n) -> x.match(n));
            outside(scene, "most", 0, 10, (x, n) -> x.match(n));
        }
    }

    private static void withMissing() {
        missingOrders("order", (x, n) -> x.with(n));
    }

    // 12 open

    private static void openMissing() {
        missingOrders("order", (x, n) -> x.open(n));
    }

    private static void openNotFree() {
        refused(BUSY, "first of a batch", STATE, x -> x.open(0));
        refused(BUSY, "last of a batch", STATE, x -> x.open(1));
    }

    private static void openRoom() {
        BatchSavings x = busy();
        for (int batch = 2; batch < 10; batch++) {
            same("batch", batch, x.open(7));
            x.leave(7);
        }
        refused(FULL, "with a partner", ROOM, y -> y.open(4));
        refused(FULL, "its partner", ROOM, y -> y.open(5));
        refused(FULL, "alone", ROOM, y -> y.open(8));
    }

    private static void openInTurn() {
        missing(FULL, "order, and no room", 10, (x, n) -> x.open(n));
        refused(FULL, "not free, and no room", STATE, x -> x.open(9));
        refused(FULL, "in a full batch, and no room", STATE, x -> x.open(0));
    }

    // 13 join

    private static void joinMissingOrder() {
        for (Scene scene : new Scene[] {BUSY, FULL}) {
            missing(scene, "order", scene.orders, (x, n) -> x.join(n, 1));
        }
        missing(EMPTY, "order, where nothing is", 0, (x, n) -> x.join(n, 0));
    }

    private static void joinMissingBatch() {
        missing(NO_BATCH, "batch", 0, (x, n) -> x.join(0, n));
        missing(BUSY, "batch", 2, (x, n) -> x.join(7, n));
        missing(FULL, "batch", 10, (x, n) -> x.join(6, n));
    }

    private static void joinNotFree() {
        refused(BUSY, "its own batch", STATE, x -> x.join(0, 0));
        refused(BUSY, "its own batch, as the last one", STATE, x -> x.join(1, 0));
        refused(BUSY, "an empty batch", STATE, x -> x.join(1, 1));
        refused(FULL, "another batch", STATE, x -> x.join(3, 9));
    }

    private static void joinNotTogether() {
        refused(BUSY, "barred for the first", STATE, x -> x.join(3, 0));
        refused(BUSY, "in a zone that is not near", STATE, x -> x.join(6, 0));
        refused(willing(500, 29), "sizes one above", STATE, x -> x.join(2, 0));
        refused(willing(50 + 51 + 52 - 1, 35), "weights one above", STATE, x -> x.join(2, 0));
        same("sizes and weights at the limits", 270, willing(50 + 51 + 52, 30).maker.make().join(2, 0));
        Scene small = new Scene("busy, least size", () -> limited(busy(), 500, 9), 8, 2);
        refused(small, "alone above the limit of size, to an empty batch", STATE, x -> x.join(7, 1));
        Scene weak = new Scene("busy, least weight", () -> limited(busy(), 56, 35), 8, 2);
        refused(weak, "alone above the limit of weight, to an empty batch", STATE, x -> x.join(7, 1));
        same("alone at the limits, to an empty batch", 100, limited(busy(), 57, 10).join(7, 1));
    }

    private static BatchSavings limited(BatchSavings x, int weight, int size) {
        x.limit(weight, size);
        return x;
    }

    /** As busy, but order 2 may come to batch 0 as far as its saving goes. */
    private static Scene willing(int weight, int size) {
        return new Scene("willing " + weight + " " + size, () -> {
            BatchSavings x = limited(busy(), weight, size);
            x.joined(1, 2, 200);
            return x;
        }, 8, 2);
    }

    private static void joinSavingBelow() {
        refused(BUSY, "saving -1", STATE, x -> x.join(2, 0));
        BatchSavings x = busy();
        x.joined(1, 2, 200);
        same("saving 0", 270, x.join(2, 0));
    }

    private static void joinRoom() {
        refused(FULL, "a fifth", ROOM, x -> x.join(6, 0));
        BatchSavings x = full();
        x.leave(1);
        same("a fourth", 800, x.join(6, 0));
    }

    private static void joinMissingFirst() {
        missing(BUSY, "batch, and not free", 2, (x, n) -> x.join(0, n));
        missing(FULL, "batch, and not free", 10, (x, n) -> x.join(9, n));
        missing(FULL, "order, and the batch has four", 10, (x, n) -> x.join(n, 0));
        missing(FULL, "order and batch", 10, (x, n) -> x.join(n, n));
        missing(EMPTY, "order and batch", 0, (x, n) -> x.join(n, n));
    }

    private static void joinStateFirst() {
        refused(FULL, "not free, and it has four", STATE, x -> x.join(9, 0));
        refused(FULL, "its own batch, and it has four", STATE, x -> x.join(3, 0));
        refused(FULL, "barred, and it has four", STATE, x -> x.join(4, 0));
        refused(FULL, "saving below 0, and it has four", STATE, x -> x.join(5, 0));
        refused(FULL, "weights above, and it has four", STATE, x -> x.join(7, 0));
        refused(FULL, "zone not near, and it has four", STATE, x -> x.join(8, 0));
        refused(TIGHT, "sizes above, and it has four", STATE, x -> x.join(6, 0));
    }

    // 14 leave, 15 batch

    private static void leaveMissing() {
        missingOrders("order", (x, n) -> x.leave(n));
    }

    private static void leaveFree() {
        refused(NO_BATCH, "never in one", STATE, x -> x.leave(0));
        refused(BUSY, "one that has left", STATE, x -> x.leave(6));
        refused(BUSY, "with a partner", STATE, x -> x.leave(2));
        refused(FULL, "with a partner", STATE, x -> x.leave(4));
    }

    private static void batchMissing() {
        missingOrders("order", (x, n) -> x.batch(n));
    }

    // 16 told

    private static void toldMissing() {
        for (int what = 0; what <= 4; what++) {
            int asked = what;
            for (Scene scene : SCENES) {
                missing(scene, "batch, what " + what, scene.batches, (x, n) -> x.told(n, 0, asked));
            }
        }
    }

    private static void toldWhat() {
        inside(BUSY, "what", 0, 4, (x, n) -> x.told(0, 0, n));
        outside(BUSY, "what", 0, 4, (x, n) -> x.told(0, 0, n));
        outside(BUSY, "what of an empty one", 0, 4, (x, n) -> x.told(1, 0, n));
        outside(FULL, "what of a full one", 0, 4, (x, n) -> x.told(0, 3, n));
        outside(BUSY, "what, and no such i", 0, 4, (x, n) -> x.told(0, 2, n));
    }

    private static void toldNoSuchI() {
        inside(BUSY, "i of two", 0, 1, (x, n) -> x.told(0, n, 0));
        outside(BUSY, "i of two", 0, 1, (x, n) -> x.told(0, n, 0));
        outside(BUSY, "i of none", 0, -1, (x, n) -> x.told(1, n, 0));
        outside(FULL, "i of one", 0, 0, (x, n) -> x.told(9, n, 0));
        inside(FULL, "i of four", 0, 3, (x, n) -> x.told(0, n, 0));
        outside(FULL, "i of four", 0, 3, (x, n) -> x.told(0, n, 0));
    }

    private static void toldInTurn() {
        for (Scene scene : SCENES) {
            missing(scene, "batch, and what below", scene.batches, (x, n) -> x.told(n, 0, -1));
            missing(scene, "batch, and what above", scene.batches, (x, n) -> x.told(n, 0, 5));
            missing(scene, "batch, and i below", scene.batches, (x, n) -> x.told(n, -1, 0));
            missing(scene, "batch, and i above", scene.batches, (x, n) -> x.told(n, 4, 0));
        }
    }

    // 17 best

    private static void bestMissing() {
        missingOrders("order", (x, n) -> x.best(n));
    }

    private static void bestNotFree() {
        refused(BUSY, "first of a batch", STATE, x -> x.best(0));
        refused(BUSY, "last of a batch", STATE, x -> x.best(1));
        refused(FULL, "in a full one", STATE, x -> x.best(2));
        refused(FULL, "alone in a batch", STATE, x -> x.best(9));
    }

    // 18 share, 19 mean

    private static void shareRange() {
        for (Scene scene : new Scene[] {EMPTY, BUSY}) {
            inside(scene, "part", 0, 1000000, (x, n) -> x.share(n, 7));
            outside(scene, "part", 0, 1000000, (x, n) -> x.share(n, 7));
            refused(scene, "all -1", ARGUMENT, x -> x.share(5, -1));
            refused(scene, "all lowest", ARGUMENT, x -> x.share(5, LOWEST));
            refused(scene, "both -1", ARGUMENT, x -> x.share(-1, -1));
            refused(scene, "none of all -1", ARGUMENT, x -> x.share(0, -1));
        }
        same("all 1", 500, new BatchSavings().share(5, 1));
        same("all highest", 0, new BatchSavings().share(1000000, HIGHEST));
    }

    private static void shareOfNothing() {
        for (Scene scene : SCENES) {
            refused(scene, "0 of 0", ARITHMETIC, x -> x.share(0, 0));
            refused(scene, "1 of 0", ARITHMETIC, x -> x.share(1, 0));
            refused(scene, "the most of 0", ARITHMETIC, x -> x.share(1000000, 0));
        }
    }

    private static void shareInTurn() {
        outside(BUSY, "part, and all is 0", 0, 1000000, (x, n) -> x.share(n, 0));
    }

    private static void meanOfNone() {
        refused(EMPTY, "no orders", ARITHMETIC, x -> x.mean());
        BatchSavings x = new BatchSavings();
        x.order(10, 10, 0);
        same("one order", 0, x.mean());
    }

    private static void questions() {
        for (Scene scene : SCENES) {
            for (int what = -1; what <= 5; what++) {
                int asked = what;
                quiet(scene, "count " + what, x -> x.count(asked));
            }
            quiet(scene, "exact", x -> x.exact());
            quiet(scene, "share", x -> x.share(1, 3));
            quiet(scene, "mean", x -> x.mean());
            quiet(scene, "saving", x -> x.saving(0, 2));
            for (int order = 0; order < scene.orders; order++) {
                int asked = order;
                quiet(scene, "with " + order, x -> x.with(asked));
                quiet(scene, "batch " + order, x -> x.batch(asked));
                quiet(scene, "best " + order, x -> x.best(asked));
            }
            for (int what = 0; what <= 4; what++) {
                int asked = what;
                quiet(scene, "told " + what, x -> x.told(0, 0, asked));
            }
        }
    }

    // What a test says.

    private static void test(String name, Runnable body) {
        test = name;
        tests++;
        try {
            body.run();
        } catch (RuntimeException e) {
            fail("threw " + e);
        }
    }

    private static void inside(Scene scene, String what, int least, int most, CallWith call) {
        for (int number : new int[] {least, most}) {
            checks++;
            String got = answer(scene.maker.make(), x -> call.on(x, number));
            if (got.endsWith("Exception")) {
                fail(scene.name + ", " + what + " " + number + " threw " + got);
            }
        }
    }

    private static void outside(Scene scene, String what, int least, int most, CallWith call) {
        for (int number : new int[] {least - 1, most + 1, LOWEST, HIGHEST}) {
            refused(scene, what + " " + number, ARGUMENT, x -> call.on(x, number));
        }
    }

    private static void missingOrders(String what, CallWith call) {
        for (Scene scene : SCENES) {
            missing(scene, what, scene.orders, call);
        }
    }

    /** The numbers 1 << 29, 1 << 30 and their like would be 0 again if they were multiplied by 8 or 4. */
    private static void missing(Scene scene, String what, int number, CallWith call) {
        for (int each : new int[] {-1, number, -number - 1, 100, 1 << 29, 1 << 30, LOWEST, HIGHEST}) {
            refused(scene, what + " " + each, MISSING, x -> call.on(x, each));
        }
    }

    private static void refused(Scene scene, String what, Class<?> want, Call call) {
        checks++;
        String text = scene.name + ", " + what;
        try {
            fail(text + " answered " + call.on(scene.maker.make()) + ", due is " + want.getSimpleName());
        } catch (RuntimeException e) {
            if (e.getClass() != want) {
                fail(text + " threw " + e + ", due is " + want.getSimpleName());
            } else if ("/ by zero".equals(e.getMessage())) {
                fail(text + " was thrown by the machine");
            }
        }
        quiet(scene, what, call);
    }

    private static void unchanged(Scene scene, String what, Object want, Call call) {
        same(scene.name + ", " + what, want, call.on(scene.maker.make()));
        quiet(scene, what, call);
    }

    /** After the call, every question is answered as on a twin without it. */
    private static void quiet(Scene scene, String what, Call call) {
        compare(scene, what, call, BatchSavingsRefusals::questionsOf);
        compare(scene, what, call, BatchSavingsRefusals::pairsOf);
        compare(scene, what, call, BatchSavingsRefusals::limitsOf);
        compare(scene, what, call, BatchSavingsRefusals::comingOf);
    }

    private static void compare(Scene scene, String what, Call call, Call probe) {
        checks++;
        BatchSavings asked = scene.maker.make();
        answer(asked, call);
        Object got = probe.on(asked);
        Object want = probe.on(scene.maker.make());
        if (!got.equals(want)) {
            fail(scene.name + ", " + what + " changed\n  " + want + "\n  to\n  " + got);
        }
    }

    private static void same(String what, Object want, Object got) {
        checks++;
        if (!want.equals(got)) {
            fail(what + " answered " + got + ", due is " + want);
        }
    }

    private static void fail(String text) {
        wrong++;
        System.out.println(test + ": " + text);
    }

    private static String answer(BatchSavings x, Call call) {
        try {
            return String.valueOf(call.on(x));
        } catch (RuntimeException e) {
            if (!DOCUMENTED.contains(e.getClass()) || "/ by zero".equals(e.getMessage())) {
                fail("the machine threw " + e);
            }
            return e.getClass().getSimpleName();
        }
    }

    private static Object near(BatchSavings x, int zone, int other, boolean on) {
        x.near(zone, other, on);
        return "done";
    }

    // What an object shows of itself: each of these stays, with the scene's own calls, below 512.

    private static Object questionsOf(BatchSavings x) {
        StringBuilder all = new StringBuilder();
        for (int what = -1; what <= 5; what++) {
            all.append(x.count(what)).append(' ');
        }
        all.append(x.exact()).append(' ').append(answer(x, y -> y.mean()));
        for (int a = 0; a < x.count(0); a++) {
            int order = a;
            all.append("; ").append(x.with(a)).append(' ').append(x.batch(a)).append(' ')
                    .append(answer(x, y -> y.best(order)));
            for (int b = a + 1; b < x.count(0); b++) {
                all.append(' ').append(x.saving(a, b));
            }
        }
        for (int batch = 0; batch < x.count(1); batch++) {
            int asked = batch;
            all.append("; ");
            for (int what = 1; what <= 4; what++) {
                all.append(' ').append(x.told(batch, 0, what));
            }
            for (int i = 0; i < 4; i++) {
                int place = i;
                all.append(' ').append(answer(x, y -> y.told(asked, place, 0)));
            }
        }
        return all.toString();
    }

    private static void allLeave(BatchSavings x) {
        for (int order = 0; order < x.count(0); order++) {
            if (x.batch(order) >= 0) {
                x.leave(order);
            }
        }
        if (x.count(0) > 0 && x.count(1) == 0) {
            x.open(0);
            x.leave(0);
        }
    }

    /** Seconds, sizes and weights, and for each two whether they may be together: all others are out of batch 0. */
    private static Object pairsOf(BatchSavings x) {
        StringBuilder all = new StringBuilder();
        allLeave(x);
        for (int a = 0; a < x.count(0); a++) {
            for (int b = a + 1; b < x.count(0); b++) {
                all.append(' ').append(x.joined(a, b, 0));
            }
        }
        for (int a = 0; a < x.count(0); a++) {
            int order = a;
            all.append("; ").append(answer(x, y -> y.join(order, 0)));
            for (int what = 2; what <= 4; what++) {
                all.append(' ').append(x.told(0, 0, what));
            }
            for (int b = a + 1; b < x.count(0); b++) {
                int other = b;
                all.append(' ').append(answer(x, y -> y.best(other)));
            }
            answer(x, y -> y.leave(order));
        }
        return all.toString();
    }

    /** The limit of weight, as far as one order can show it, and how far batch 0 can be filled. */
    private static Object limitsOf(BatchSavings x) {
        StringBuilder all = new StringBuilder();
        if (x.count(0) == 0) {
            for (int order = 0; order < 5; order++) {
                all.append(x.order(100, 25, 0)).append(' ');
            }
        }
        allLeave(x);
        for (int order = 0; order < x.count(0); order++) {
            int asked = order;
            all.append(answer(x, y -> y.join(asked, 0))).append(' ');
        }
        allLeave(x);
        int low = 0;
        int high = 1001;
        for (int step = 0; step < 11 && high - low > 1; step++) {
            int middle = (low + high) / 2;
            if (x.weight(0, middle)) {
                low = middle;
            } else {
                high = middle;
            }
        }
        return all.append(low).toString();
    }

    /** What comes next: matchings, orders, rules, batches. */
    private static Object comingOf(BatchSavings x) {
        StringBuilder all = new StringBuilder();
        for (int most : new int[] {0, 10}) {
            all.append(x.match(most)).append(' ').append(x.exact());
            for (int order = 0; order < x.count(0); order++) {
                all.append(' ').append(x.with(order));
            }
            all.append("; ");
        }
        for (int i = 0; i < 9; i++) {
            int zone = i % 4;
            all.append(answer(x, y -> y.order(50, 50, zone))).append(' ');
        }
        for (int a = 0; a < x.count(0); a++) {
            for (int b = a + 1; b < x.count(0); b++) {
                all.append(x.rule(a, b, false)).append(' ');
            }
        }
        for (int order = 0; order < x.count(0); order++) {
            int asked = order;
            all.append(answer(x, y -> y.open(asked))).append(' ');
        }
        return all.append(x.count(1)).append(' ').append(x.match(10)).toString();
    }
}

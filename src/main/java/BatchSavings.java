import java.util.Arrays;
import java.util.NoSuchElementException;

/** Batches of a warehouse's orders: which may be together, and the seconds that they save. */
public final class BatchSavings {
    private static final int MOST_ORDERS = 10;
    private static final int MOST_BATCHES = 10;
    private static final int MOST_IN_BATCH = 4;
    private static final int ZONES = 4;
    private static final int MOST_SECONDS = 10000;
    private static final int MOST_JOINED = 20000;
    private static final int MOST_SIZE = 100;
    private static final int MOST_WEIGHT = 1000;
    private static final int MOST_SIZE_LIMIT = 400;
    private static final int MOST_WEIGHT_LIMIT = 4000;
    private static final int MOST_PART = 1000000;
    private static final int NONE = -1;

    private final Orders orders;
    private final Rules rules;
    private final Batches batches;
    private final Matching matching;

    public BatchSavings() {
        orders = new Orders();
        rules = new Rules(orders);
        batches = new Batches(orders);
        matching = new Matching(orders);
    }

    public int order(int seconds, int size, int zone)
            throws IllegalArgumentException, UnsupportedOperationException {
        needRange(seconds, 1, MOST_SECONDS);
        needRange(size, 1, MOST_SIZE);
        needRange(zone, 0, ZONES - 1);
        if (orders.number >= MOST_ORDERS) {
            throw new UnsupportedOperationException("no room for another order");
        }
        return orders.add(seconds, size, zone);
    }

    public int joined(int a, int b, int seconds) throws NoSuchElementException, IllegalArgumentException {
        needTwoOrders(a, b);
        needRange(seconds, 0, MOST_JOINED);
        orders.putTogether(a, b, seconds);
        return orders.savingOf(a, b);
    }

    public int saving(int a, int b) throws NoSuchElementException, IllegalArgumentException {
        needTwoOrders(a, b);
        return orders.savingOf(a, b);
    }

    public boolean rule(int a, int b, boolean barred) throws NoSuchElementException, IllegalArgumentException {
        needTwoOrders(a, b);
        rules.bar(a, b, barred);
        return rules.allowPair(a, b);
    }

    public boolean weight(int order, int w)
            throws NoSuchElementException, IllegalArgumentException, IllegalStateException {
        needOrder(order);
        needRange(w, 0, MOST_WEIGHT);
        needFree(order);
        if (w > rules.weightLimit) {
            return false;
        }
        orders.weights[order] = w;
        return true;
    }

    public void near(int zone, int other, boolean on) throws IllegalArgumentException {
        needRange(zone, 0, ZONES - 1);
        needRange(other, 0, ZONES - 1);
        needDifferent(zone, other);
        rules.bringNear(zone, other, on);
    }

    public int limit(int weight, int size) throws IllegalArgumentException {
        needRange(weight, 0, MOST_WEIGHT_LIMIT);
        needRange(size, 1, MOST_SIZE_LIMIT);
        rules.weightLimit = weight;
        rules.sizeLimit = size;
        return rules.aboveAlone();
    }

    public int match(int most) throws IllegalArgumentException {
        needRange(most, 0, MOST_ORDERS);
        takeGains();
        matching.pairAnew(batches.freeOrders() <= most);
        return matching.saved();
    }

    public boolean exact() {
        return matching.wasExact;
    }

    public int with(int order) throws NoSuchElementException {
        needOrder(order);
        return matching.partners[order];
    }

    public int open(int order)
            throws NoSuchElementException, IllegalStateException, UnsupportedOperationException {
        needOrder(order);
        needFree(order);
        if (batches.number >= MOST_BATCHES) {
            throw new UnsupportedOperationException("no room for another batch");
        }
        int partner = matching.partners[order];
        matching.part(order);
        int batch = batches.addEmpty();
        batches.put(order, batch);
        if (partner != NONE) {
            batches.put(partner, batch);
        }
        return batch;
    }

    public int join(int order, int batch)
            throws NoSuchElementException, IllegalStateException, UnsupportedOperationException {
        needOrder(order);
        needBatch(batch);
        needFree(order);
        if (!suits(order, batch)) {
            throw new IllegalStateException("the order does not suit the batch");
        }
        if (batches.isFull(batch)) {
            throw new UnsupportedOperationException("no room in the batch");
        }
        matching.part(order);
        batches.put(order, batch);
        return batches.wayOf(batch);
    }

    public int leave(int order) throws NoSuchElementException, IllegalStateException {
        needOrder(order);
        int batch = batches.homes[order];
        if (batch == NONE) {
            throw new IllegalStateException("the order is free");
        }
        batches.take(order, batch);
        return batches.lengths[batch];
    }

    public int batch(int order) throws NoSuchElementException {
        needOrder(order);
        return batches.homes[order];
    }

    public int told(int batch, int i, int what) throws NoSuchElementException, IllegalArgumentException {
        needBatch(batch);
        switch (what) {
            case 0:
                needRange(i, 0, batches.lengths[batch] - 1);
                return batches.orderAt(batch, i);
            case 1:
                return batches.wayOf(batch);
            case 2:
                return batches.savedBy(batch);
            case 3:
                return batches.sumOf(batch, orders.sizes);
            case 4:
                return batches.sumOf(batch, orders.weights);
            default:
                throw new IllegalArgumentException("no such what");
        }
    }

    public int best(int order) throws NoSuchElementException, IllegalStateException {
        needOrder(order);
        needFree(order);
        int found = NONE;
        int greatest = 0;
        for (int batch = 0; batch < batches.number; batch++) {
            if (batches.isFull(batch) || !suits(order, batch)) {
                continue;
            }
            int saving = batches.savingWithLast(order, batch);
            if (found == NONE || saving > greatest) {
                found = batch;
                greatest = saving;
            }
        }
        return found;
    }

    public int share(int part, int all) throws IllegalArgumentException, ArithmeticException {
        needRange(part, 0, MOST_PART);
        if (all < 0) {
            throw new IllegalArgumentException("a number below 0");
        }
        if (all == 0) {
            throw new ArithmeticException("a share of nothing");
        }
        return 100 * part / all;
    }

    public int mean() throws ArithmeticException {
        if (orders.number == 0) {
            throw new ArithmeticException("a mean of no orders");
        }
        return (batches.saved() + matching.saved()) / orders.number;
    }

    public int count(int what) {
        switch (what) {
            case 0:
                return orders.number;
            case 1:
                return batches.number;
            case 2:
                return batches.freeOrders();
            case 3:
                return matching.pairs();
            case 4:
                return matching.saved();
            default:
                return NONE;
        }
    }

    private void needOrder(int order) {
        if (!orders.has(order)) {
            throw new NoSuchElementException("no such order");
        }
    }

    private void needTwoOrders(int a, int b) {
        needOrder(a);
        needOrder(b);
        needDifferent(a, b);
    }

    private void needBatch(int batch) {
        if (!batches.has(batch)) {
            throw new NoSuchElementException("no such batch");
        }
    }

    private void needFree(int order) {
        if (!batches.isFree(order)) {
            throw new IllegalStateException("the order is not free");
        }
    }

    private static void needRange(int value, int least, int most) {
        if (value < least || value > most) {
            throw new IllegalArgumentException("a number outside its range");
        }
    }

    private static void needDifferent(int one, int other) {
        if (one == other) {
            throw new IllegalArgumentException("the two are the same");
        }
    }

    private void takeGains() {
        for (int a = 0; a < orders.number; a++) {
            for (int b = a + 1; b < orders.number; b++) {
                boolean mayPair = batches.isFree(a) && batches.isFree(b) && rules.allowPair(a, b);
                matching.putGain(a, b, mayPair ? Math.max(0, orders.savingOf(a, b)) : 0);
            }
        }
    }

    /** Whether a batch could take the order if it had room: a full one is refused apart from this, and later. */
    private boolean suits(int order, int batch) {
        rules.startSet();
        for (int i = 0; i < batches.lengths[batch]; i++) {
            rules.addToSet(batches.orderAt(batch, i));
        }
        rules.addToSet(order);
        return rules.allowSet() && batches.savingWithLast(order, batch) >= 0;
    }

    private static int pairIndex(int a, int b) {
        return a * MOST_ORDERS + b;
    }

    /** What is known of each order, and of each two as to their seconds. */
    private static final class Orders {
        private final int[] seconds = new int[MOST_ORDERS];
        private final int[] sizes = new int[MOST_ORDERS];
        private final int[] zones = new int[MOST_ORDERS];
        private final int[] weights = new int[MOST_ORDERS];
        private final int[] together = new int[MOST_ORDERS * MOST_ORDERS];
        private int number;

        private Orders() {
            // 0 joined seconds may be told, so that untold ones need another mark.
            Arrays.fill(together, NONE);
        }

        private boolean has(int order) {
            return order >= 0 && order < number;
        }

        private int add(int itsSeconds, int size, int zone) {
            int order = number;
            seconds[order] = itsSeconds;
            sizes[order] = size;
            zones[order] = zone;
            number++;
            return order;
        }

        private void putTogether(int a, int b, int itsSeconds) {
            together[pairIndex(a, b)] = itsSeconds;
            together[pairIndex(b, a)] = itsSeconds;
        }

        private int savingOf(int a, int b) {
            int both = together[pairIndex(a, b)];
            return both == NONE ? 0 : seconds[a] + seconds[b] - both;
        }
    }

    /** Which orders may be together. */
    private static final class Rules {
        private final Orders orders;
        private final boolean[] barred = new boolean[MOST_ORDERS * MOST_ORDERS];
        private final boolean[] nearby = new boolean[ZONES * ZONES];
        // The set that is asked about, at most a full batch and one more order: one row for all calls, to spare room.
        private final int[] set = new int[MOST_IN_BATCH + 1];
        private int setSize;
        private int weightLimit = MOST_WEIGHT;
        private int sizeLimit = MOST_SIZE;

        private Rules(Orders orders) {
            this.orders = orders;
            for (int zone = 0; zone < ZONES; zone++) {
                nearby[zone * ZONES + zone] = true;
            }
        }

        private void bar(int a, int b, boolean on) {
            barred[pairIndex(a, b)] = on;
            barred[pairIndex(b, a)] = on;
        }

        private void bringNear(int zone, int other, boolean on) {
            nearby[zone * ZONES + other] = on;
            nearby[other * ZONES + zone] = on;
        }

        private int aboveAlone() {
            int above = 0;
            for (int order = 0; order < orders.number; order++) {
                if (orders.weights[order] > weightLimit || orders.sizes[order] > sizeLimit) {
                    above++;
                }
            }
            return above;
        }

        private void startSet() {
            setSize = 0;
        }

        private void addToSet(int order) {
            if (setSize < set.length) {
                set[setSize] = order;
                setSize++;
            }
        }

        private boolean allowPair(int a, int b) {
            startSet();
            addToSet(a);
            addToSet(b);
            return allowSet();
        }

        private boolean allowSet() {
            int weight = 0;
            int size = 0;
            for (int i = 0; i < setSize; i++) {
                weight += orders.weights[set[i]];
                size += orders.sizes[set[i]];
                for (int j = i + 1; j < setSize; j++) {
                    if (!getAlong(set[i], set[j])) {
                        return false;
                    }
                }
            }
            return weight <= weightLimit && size <= sizeLimit;
        }

        private boolean getAlong(int a, int b) {
            return !barred[pairIndex(a, b)] && nearby[orders.zones[a] * ZONES + orders.zones[b]];
        }
    }

    /** The open batches, each a row of orders. */
    private static final class Batches {
        private final Orders orders;
        private final int[] rows = new int[MOST_BATCHES * MOST_IN_BATCH];
        private final int[] lengths = new int[MOST_BATCHES];
        private final int[] homes = new int[MOST_ORDERS];
        private int number;

        private Batches(Orders orders) {
            this.orders = orders;
            Arrays.fill(homes, NONE);
        }

        private boolean has(int batch) {
            return batch >= 0 && batch < number;
        }

        private boolean isFull(int batch) {
            return lengths[batch] >= MOST_IN_BATCH;
        }

        private boolean isFree(int order) {
            return homes[order] == NONE;
        }

        private int freeOrders() {
            int free = 0;
            for (int order = 0; order < orders.number; order++) {
                if (isFree(order)) {
                    free++;
                }
            }
            return free;
        }

        private int orderAt(int batch, int i) {
            return rows[batch * MOST_IN_BATCH + i];
        }

        private int addEmpty() {
            int batch = number;
            number++;
            return batch;
        }

        private void put(int order, int batch) {
            rows[batch * MOST_IN_BATCH + lengths[batch]] = order;
            lengths[batch]++;
            homes[order] = batch;
        }

        private void take(int order, int batch) {
            int first = batch * MOST_IN_BATCH;
            int kept = 0;
            for (int i = 0; i < lengths[batch]; i++) {
                if (rows[first + i] != order) {
                    rows[first + kept] = rows[first + i];
                    kept++;
                }
            }
            lengths[batch] = kept;
            homes[order] = NONE;
        }

        private int savingWithLast(int order, int batch) {
            int length = lengths[batch];
            return length == 0 ? 0 : orders.savingOf(orderAt(batch, length - 1), order);
        }

        private int sumOf(int batch, int[] numbers) {
            int sum = 0;
            for (int i = 0; i < lengths[batch]; i++) {
                sum += numbers[orderAt(batch, i)];
            }
            return sum;
        }

        private int savedBy(int batch) {
            int sum = 0;
            for (int i = 1; i < lengths[batch]; i++) {
                sum += orders.savingOf(orderAt(batch, i - 1), orderAt(batch, i));
            }
            return sum;
        }

        private int wayOf(int batch) {
            return sumOf(batch, orders.seconds) - savedBy(batch);
        }

        private int saved() {
            int sum = 0;
            for (int batch = 0; batch < number; batch++) {
                sum += savedBy(batch);
            }
            return sum;
        }
    }

    /** Pairs of free orders. */
    private static final class Matching {
        private final Orders orders;
        private final int[] partners = new int[MOST_ORDERS];
        // Of two orders, the lower one first: their saving if they may be a pair, else 0.
        private final int[] gains = new int[MOST_ORDERS * MOST_ORDERS];
        // Of a set of orders (a bit each): the greatest sum of savings of its pairs.
        private final int[] sums = new int[1 << MOST_ORDERS];
        private boolean wasExact;

        private Matching(Orders orders) {
            this.orders = orders;
            Arrays.fill(partners, NONE);
        }

        private void putGain(int a, int b, int gain) {
            gains[pairIndex(a, b)] = gain;
        }

        private void pairAnew(boolean exactly) {
            Arrays.fill(partners, NONE);
            wasExact = exactly;
            if (exactly) {
                findSums();
                pairBySums();
            } else {
                pairByRule();
            }
        }

        private void bind(int a, int b) {
            partners[a] = b;
            partners[b] = a;
        }

        private void part(int order) {
            int partner = partners[order];
            if (partner != NONE) {
                partners[partner] = NONE;
            }
            partners[order] = NONE;
        }

        private int pairs() {
            int found = 0;
            for (int order = 0; order < orders.number; order++) {
                if (partners[order] > order) {
                    found++;
                }
            }
            return found;
        }

        private int saved() {
            int sum = 0;
            for (int order = 0; order < orders.number; order++) {
                if (partners[order] > order) {
                    sum += orders.savingOf(order, partners[order]);
                }
            }
            return sum;
        }

        private void findSums() {
            sums[0] = 0;
            for (int lowest = orders.number - 1; lowest >= 0; lowest--) {
                int later = orders.number - 1 - lowest;
                for (int others = 0; others < (1 << later); others++) {
                    // Each order before the lowest takes one later order at most, so that other sets never come up.
                    if (later - Integer.bitCount(others) <= lowest) {
                        int rest = others << (lowest + 1);
                        sums[rest | (1 << lowest)] = greatestSum(lowest, rest);
                    }
                }
            }
        }

        private int greatestSum(int lowest, int rest) {
            int greatest = sums[rest];
            for (int other = lowest + 1; other < orders.number; other++) {
                if (mayTake(lowest, other, rest)) {
                    greatest = Math.max(greatest, sumWith(lowest, other, rest));
                }
            }
            return greatest;
        }

        private boolean mayTake(int lowest, int other, int rest) {
            return (rest & (1 << other)) != 0 && gains[pairIndex(lowest, other)] > 0;
        }

        private int sumWith(int lowest, int other, int rest) {
            return gains[pairIndex(lowest, other)] + sums[rest & ~(1 << other)];
        }

        private void pairBySums() {
            int left = (1 << orders.number) - 1;
            for (int order = 0; order < orders.number; order++) {
                if ((left & (1 << order)) != 0) {
                    int rest = left & ~(1 << order);
                    int partner = firstPartner(order, rest, sums[left]);
                    if (partner != NONE) {
                        bind(order, partner);
                        rest &= ~(1 << partner);
                    }
                    left = rest;
                }
            }
        }

        private int firstPartner(int order, int rest, int due) {
            for (int other = order + 1; other < orders.number; other++) {
                if (mayTake(order, other, rest) && sumWith(order, other, rest) == due) {
                    return other;
                }
            }
            return NONE;
        }

        private void pairByRule() {
            for (int round = 0; round < MOST_ORDERS / 2; round++) {
                int a = NONE;
                int b = NONE;
                int greatest = 0;
                for (int first = 0; first < orders.number; first++) {
                    for (int second = first + 1; second < orders.number; second++) {
                        int gain = gains[pairIndex(first, second)];
                        if (gain > greatest && partners[first] == NONE && partners[second] == NONE) {
                            a = first;
                            b = second;
                            greatest = gain;
                        }
                    }
                }
                if (a == NONE) {
                    return;
                }
                bind(a, b);
            }
        }
    }
}

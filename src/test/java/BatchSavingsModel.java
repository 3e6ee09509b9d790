import java.util.ArrayList;
import java.util.Arrays;
import java.util.HashMap;
import java.util.List;
import java.util.Map;
import java.util.NoSuchElementException;
import java.util.Objects;

/** Runs of 512 calls, every answer compared with that of a plain model which tries every matching. */
public final class BatchSavingsModel {
    private static final int RUNS = 1500;
    private static final int CALLS = 512;
    private static final int KINDS = 19;

    private long seed;

    public static void main(String[] args) {
        int wrong = 0;
        long[] answered = new long[KINDS];
        long[] refused = new long[KINDS];
        for (int run = 1; run <= RUNS && wrong < 20; run++) {
            wrong += new BatchSavingsModel().play(run, answered, refused);
        }
        System.out.println("answered " + Arrays.toString(answered));
        System.out.println("refused " + Arrays.toString(refused));
        System.out.println(wrong == 0 ? "all answers are as the model's" : wrong + " runs differ");
        if (wrong != 0) {
            System.exit(1);
        }
    }

    private int play(int run, long[] answered, long[] refused) {
        seed = run * 7919L;
        BatchSavings real = new BatchSavings();
        Model model = new Model();
        List<String> calls = new ArrayList<>();
        boolean smallSavings = run % 2 == 0;
        for (int i = 0; i < CALLS; i++) {
            int kind = pickKind(i);
            int[] a = arguments(kind, smallSavings);
            String got;
            String want;
            try {
                got = String.valueOf(ask(real, kind, a));
            } catch (RuntimeException e) {
                got = e.getClass().getSimpleName();
            }
            try {
                want = String.valueOf(model.ask(kind, a));
                answered[kind]++;
            } catch (RuntimeException e) {
                want = e.getClass().getSimpleName();
                refused[kind]++;
            }
            calls.add(kind + Arrays.toString(a) + " -> " + got);
            if (!Objects.equals(got, want)) {
                System.out.println("run " + run + ": " + calls + ", due is " + want);
                return 1;
            }
        }
        return 0;
    }

    /** Orders come early in most runs, so that there is something to match and to join. */
    private int pickKind(int i) {
        if (i < 14 && below(3) > 0) {
            return 0;
        }
        if (i < 90 && below(2) > 0) {
            return 1;
        }
        return below(KINDS);
    }

    private int below(int bound) {
        seed = seed * 6364136223846793005L + 1442695040888963407L;
        return (int) ((seed >>> 33) % bound);
    }

    private int in(int least, int most) {
        if (below(40) == 0) {
            int[] odd = {least - 1, most + 1, Integer.MIN_VALUE, Integer.MAX_VALUE};
            return odd[below(4)];
        }
        return least + below(most - least + 1);
    }

    private int[] arguments(int kind, boolean smallSavings) {
        int anOrder = in(0, 9);
        switch (kind) {
            case 0: return new int[] {below(4) == 0 ? in(1, 10000) : in(50, 60), in(1, below(2) == 0 ? 40 : 100), in(0, 3)};
            case 1: return new int[] {anOrder, in(0, 9), below(12) == 0 ? in(0, 20000) : smallSavings ? in(98, 110) : in(0, 120)};
            case 3: return new int[] {anOrder, in(0, 9), below(5) == 0 ? 1 : 0};
            case 4: return new int[] {anOrder, below(3) == 0 ? in(0, 1000) : in(0, 300)};
            case 5: return new int[] {in(0, 3), in(0, 3), below(4) == 0 ? 0 : 1};
            case 6: return new int[] {below(3) == 0 ? in(0, 4000) : 1000, below(3) == 0 ? in(1, 400) : 200};
            case 7: return new int[] {in(0, 10)};
            case 11: return new int[] {anOrder, in(0, 9)};
            case 14: return new int[] {in(0, 9), in(0, 3), in(0, 4)};
            case 16: return new int[] {below(2) == 0 ? in(0, 1000000) : in(0, 9), in(0, 9)};
            case 18: return new int[] {in(0, 4)};
            default: return new int[] {anOrder, in(0, 9)};
        }
    }

    private static int ask(BatchSavings x, int kind, int[] a) {
        switch (kind) {
            case 0: return x.order(a[0], a[1], a[2]);
            case 1: return x.joined(a[0], a[1], a[2]);
            case 2: return x.saving(a[0], a[1]);
            case 3: return x.rule(a[0], a[1], a[2] == 1) ? 1 : 0;
            case 4: return x.weight(a[0], a[1]) ? 1 : 0;
            case 5: x.near(a[0], a[1], a[2] == 1); return 0;
            case 6: return x.limit(a[0], a[1]);
            case 7: return x.match(a[0]);
            case 8: return x.exact() ? 1 : 0;
            case 9: return x.with(a[0]);
            case 10: return x.open(a[0]);
            case 11: return x.join(a[0], a[1]);
            case 12: return x.leave(a[0]);
            case 13: return x.batch(a[0]);
            case 14: return x.told(a[0], a[1], a[2]);
            case 15: return x.best(a[0]);
            case 16: return x.share(a[0], a[1]);
            case 17: return x.mean();
            default: return x.count(a[0]);
        }
    }

    private record Pair(int low, int high) {
        static Pair of(int a, int b) {
            return new Pair(Math.min(a, b), Math.max(a, b));
        }
    }

    private static final class Parcel {
        int seconds;
        int size;
        int zone;
        int weight;
    }

    private static final class Model {
        final List<Parcel> orders = new ArrayList<>();
        final Map<Pair, Integer> joined = new HashMap<>();
        final Map<Pair, Boolean> barred = new HashMap<>();
        final Map<Pair, Boolean> near = new HashMap<>();
        final List<List<Integer>> batches = new ArrayList<>();
        List<Pair> pairs = new ArrayList<>();
        int weightLimit = 1000;
        int sizeLimit = 100;
        boolean exact;

        int ask(int kind, int[] a) {
            switch (kind) {
                case 0: return order(a[0], a[1], a[2]);
                case 1:
                    two(a[0], a[1]);
                    range(a[2], 0, 20000);
                    joined.put(Pair.of(a[0], a[1]), a[2]);
                    return saving(a[0], a[1]);
                case 2:
                    two(a[0], a[1]);
                    return saving(a[0], a[1]);
                case 3:
                    two(a[0], a[1]);
                    barred.put(Pair.of(a[0], a[1]), a[2] == 1);
                    return together(List.of(a[0], a[1])) ? 1 : 0;
                case 4: return weight(a[0], a[1]);
                case 5:
                    range(a[0], 0, 3);
                    range(a[1], 0, 3);
                    refuseIf(a[0] == a[1], new IllegalArgumentException());
                    near.put(Pair.of(a[0], a[1]), a[2] == 1);
                    return 0;
                case 6: return limit(a[0], a[1]);
                case 7: return match(a[0]);
                case 8: return exact ? 1 : 0;
                case 9:
                    has(a[0]);
                    return partner(a[0]);
                case 10: return open(a[0]);
                case 11: return join(a[0], a[1]);
                case 12: return leave(a[0]);
                case 13:
                    has(a[0]);
                    return home(a[0]);
                case 14: return told(a[0], a[1], a[2]);
                case 15: return best(a[0]);
                case 16:
                    refuseIf(a[0] < 0 || a[1] < 0 || a[0] > 1000000, new IllegalArgumentException());
                    return (int) (100L * a[0] / a[1]);
                case 17: return (batches.stream().mapToInt(this::saved).sum() + sum(pairs)) / orders.size();
                default: return count(a[0]);
            }
        }

        int order(int seconds, int size, int zone) {
            range(seconds, 1, 10000);
            range(size, 1, 100);
            range(zone, 0, 3);
            refuseIf(orders.size() == 10, new UnsupportedOperationException());
            Parcel made = new Parcel();
            made.seconds = seconds;
            made.size = size;
            made.zone = zone;
            orders.add(made);
            return orders.size() - 1;
        }

        int weight(int order, int w) {
            has(order);
            range(w, 0, 1000);
            free(order);
            if (w <= weightLimit) {
                orders.get(order).weight = w;
                return 1;
            }
            return 0;
        }

        int limit(int weight, int size) {
            range(weight, 0, 4000);
            range(size, 1, 400);
            weightLimit = weight;
            sizeLimit = size;
            return (int) orders.stream().filter(each -> each.weight > weight || each.size > size).count();
        }

        int match(int most) {
            range(most, 0, 10);
            List<Integer> free = new ArrayList<>();
            for (int order = 0; order < orders.size(); order++) {
                if (home(order) < 0) {
                    free.add(order);
                }
            }
            exact = free.size() <= most;
            pairs = exact ? greatest(free) : byRule(free);
            return sum(pairs);
        }

        /** All matchings in the document's order: each order's partners from the lowest on, none behind all. */
        List<Pair> greatest(List<Integer> free) {
            if (free.isEmpty()) {
                return new ArrayList<>();
            }
            int first = free.get(0);
            List<Pair> found = null;
            for (int i = 1; i <= free.size(); i++) {
                boolean none = i == free.size();
                if (none || mayPair(first, free.get(i))) {
                    List<Integer> rest = new ArrayList<>(free);
                    List<Pair> tried = new ArrayList<>();
                    if (!none) {
                        tried.add(Pair.of(first, free.get(i)));
                        rest.remove(i);
                    }
                    rest.remove(0);
                    tried.addAll(greatest(rest));
                    if (found == null || sum(tried) > sum(found)) {
                        found = tried;
                    }
                }
            }
            return found;
        }

        List<Pair> byRule(List<Integer> free) {
            List<Pair> all = new ArrayList<>();
            for (int a : free) {
                for (int b : free) {
                    if (a < b && mayPair(a, b)) {
                        all.add(Pair.of(a, b));
                    }
                }
            }
            // The sort is stable: of equal savings the pairs stay by their first order, then by their second.
            all.sort((one, other) -> saving(other.low(), other.high()) - saving(one.low(), one.high()));
            List<Pair> found = new ArrayList<>();
            for (Pair each : all) {
                if (found.stream().noneMatch(p -> touches(p, each.low()) || touches(p, each.high()))) {
                    found.add(each);
                }
            }
            return found;
        }

        int open(int order) {
            has(order);
            free(order);
            refuseIf(batches.size() == 10, new UnsupportedOperationException());
            List<Integer> made = new ArrayList<>(List.of(order));
            if (partner(order) >= 0) {
                made.add(partner(order));
            }
            pairs.removeIf(p -> touches(p, order));
            batches.add(made);
            return batches.size() - 1;
        }

        int join(int order, int batch) {
            has(order);
            hasBatch(batch);
            free(order);
            List<Integer> row = batches.get(batch);
            refuseIf(!suits(order, row), new IllegalStateException());
            refuseIf(row.size() == 4, new UnsupportedOperationException());
            pairs.removeIf(p -> touches(p, order));
            row.add(order);
            return seconds(row) - saved(row);
        }

        int leave(int order) {
            has(order);
            refuseIf(home(order) < 0, new IllegalStateException());
            List<Integer> row = batches.get(home(order));
            row.remove(Integer.valueOf(order));
            return row.size();
        }

        int told(int batch, int i, int what) {
            hasBatch(batch);
            range(what, 0, 4);
            List<Integer> row = batches.get(batch);
            switch (what) {
                case 0:
                    range(i, 0, row.size() - 1);
                    return row.get(i);
                case 1: return seconds(row) - saved(row);
                case 2: return saved(row);
                case 3: return row.stream().mapToInt(each -> orders.get(each).size).sum();
                default: return row.stream().mapToInt(each -> orders.get(each).weight).sum();
            }
        }

        int best(int order) {
            has(order);
            free(order);
            int found = -1;
            for (int i = batches.size() - 1; i >= 0; i--) {
                List<Integer> row = batches.get(i);
                if (row.size() < 4 && suits(order, row)
                        && (found < 0 || withLast(order, row) >= withLast(order, batches.get(found)))) {
                    found = i;
                }
            }
            return found;
        }

        int count(int what) {
            int free = 0;
            for (int order = 0; order < orders.size(); order++) {
                free += home(order) < 0 ? 1 : 0;
            }
            int[] all = {orders.size(), batches.size(), free, pairs.size(), sum(pairs)};
            return what < 0 || what > 4 ? -1 : all[what];
        }

        boolean suits(int order, List<Integer> row) {
            List<Integer> set = new ArrayList<>(row);
            set.add(order);
            return together(set) && withLast(order, row) >= 0;
        }

        int withLast(int order, List<Integer> row) {
            return row.isEmpty() ? 0 : saving(order, row.get(row.size() - 1));
        }

        int seconds(List<Integer> row) {
            return row.stream().mapToInt(each -> orders.get(each).seconds).sum();
        }

        int saved(List<Integer> row) {
            int sum = 0;
            for (int i = 1; i < row.size(); i++) {
                sum += saving(row.get(i), row.get(i - 1));
            }
            return sum;
        }

        int sum(List<Pair> some) {
            return some.stream().mapToInt(p -> saving(p.low(), p.high())).sum();
        }

        int saving(int a, int b) {
            Integer both = joined.get(Pair.of(a, b));
            return both == null ? 0 : orders.get(a).seconds + orders.get(b).seconds - both;
        }

        boolean mayPair(int a, int b) {
            return saving(a, b) > 0 && together(List.of(a, b));
        }

        boolean together(List<Integer> set) {
            int size = 0;
            int weight = 0;
            for (int a : set) {
                size += orders.get(a).size;
                weight += orders.get(a).weight;
                for (int b : set) {
                    Pair zones = Pair.of(orders.get(a).zone, orders.get(b).zone);
                    boolean close = zones.low() == zones.high() || near.getOrDefault(zones, false);
                    if (a != b && (!close || barred.getOrDefault(Pair.of(a, b), false))) {
                        return false;
                    }
                }
            }
            return size <= sizeLimit && weight <= weightLimit;
        }

        int partner(int order) {
            return pairs.stream().filter(p -> touches(p, order))
                    .mapToInt(p -> p.low() + p.high() - order).findFirst().orElse(-1);
        }

        int home(int order) {
            for (int i = 0; i < batches.size(); i++) {
                if (batches.get(i).contains(order)) {
                    return i;
                }
            }
            return -1;
        }

        static boolean touches(Pair p, int order) {
            return p.low() == order || p.high() == order;
        }

        void two(int a, int b) {
            has(a);
            has(b);
            refuseIf(a == b, new IllegalArgumentException());
        }

        void has(int order) {
            refuseIf(order < 0 || order >= orders.size(), new NoSuchElementException());
        }

        void hasBatch(int batch) {
            refuseIf(batch < 0 || batch >= batches.size(), new NoSuchElementException());
        }

        void free(int order) {
            refuseIf(home(order) >= 0, new IllegalStateException());
        }

        static void range(int value, int least, int most) {
            refuseIf(value < least || value > most, new IllegalArgumentException());
        }

        static void refuseIf(boolean bad, RuntimeException why) {
            if (bad) {
                throw why;
            }
        }
    }
}

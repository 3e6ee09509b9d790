import java.util.NoSuchElementException;
import java.util.function.IntSupplier;

/** The promises of the document one by one: ordinary inputs, edges, wrong inputs. */
public final class BatchSavingsPromises {
    private static final Class<?> MISSING = NoSuchElementException.class;
    private static final Class<?> ARGUMENT = IllegalArgumentException.class;
    private static final Class<?> STATE = IllegalStateException.class;
    private static final Class<?> ROOM = UnsupportedOperationException.class;
    private static final Class<?> ARITHMETIC = ArithmeticException.class;

    private static int checks = 0;
    private static int wrong = 0;

    public static void main(String[] args) {
        newObject();
        order();
        joined();
        saving();
        rule();
        weight();
        near();
        limit();
        matchExactly();
        matchExactlyOfEqualOnes();
        matchByRule();
        matchFreeOrdersAnew();
        exact();
        with();
        open();
        join();
        joinIsRefusedInOrder();
        leave();
        batch();
        told();
        best();
        share();
        mean();
        count();
        fullHouse();
        System.out.println(checks + " checks, " + wrong + " wrong");
        if (wrong != 0) {
            System.exit(1);
        }
    }

    private static void newObject() {
        BatchSavings x = new BatchSavings();
        for (int what = 0; what <= 4; what++) {
            int asked = what;
            due("1 count " + what, () -> x.count(asked), 0);
        }
        due("1 not exact", () -> bit(x.exact()), 0);
        refused("1 no order", () -> x.with(0), MISSING);
        refused("1 no batch", () -> x.told(0, 0, 1), MISSING);
        for (int zone = 0; zone < 4; zone++) {
            x.order(10, 1, zone);
            x.order(10, 1, zone);
        }
        for (int a = 0; a < 8; a++) {
            for (int b = a + 1; b < 8; b++) {
                int one = a;
                int other = b;
                due("1 zones near to themselves alone " + a + " " + b, () -> bit(x.rule(one, other, false)),
                        bit(a / 2 == b / 2));
            }
        }
    }

    private static void order() {
        BatchSavings x = new BatchSavings();
        refused("2 seconds 0", () -> x.order(0, 1, 0), ARGUMENT);
        refused("2 seconds 10001", () -> x.order(10001, 1, 0), ARGUMENT);
        refused("2 size 0", () -> x.order(1, 0, 0), ARGUMENT);
        refused("2 size 101", () -> x.order(1, 101, 0), ARGUMENT);
        refused("2 zone -1", () -> x.order(1, 1, -1), ARGUMENT);
        refused("2 zone 4", () -> x.order(1, 1, 4), ARGUMENT);
        due("2 refused ones are no orders", () -> x.count(0), 0);
        due("2 least", () -> x.order(1, 1, 0), 0);
        due("2 most", () -> x.order(10000, 100, 3), 1);
        for (int i = 2; i < 10; i++) {
            due("2 number " + i, () -> x.order(5, 5, 1), i);
        }
        refused("2 an eleventh", () -> x.order(5, 5, 1), ROOM);
        refused("2 out of range before no room", () -> x.order(0, 5, 1), ARGUMENT);
        due("2 ten orders", () -> x.count(0), 10);
    }

    private static void joined() {
        BatchSavings x = orders(100, 80);
        due("3 saving", () -> x.joined(0, 1, 150), 30);
        due("3 instead of earlier ones, the other way round", () -> x.joined(1, 0, 160), 20);
        due("3 told", () -> x.saving(0, 1), 20);
        due("3 least", () -> x.joined(0, 1, 0), 180);
        due("3 0 seconds are told ones", () -> x.saving(1, 0), 180);
        due("3 most", () -> x.joined(0, 1, 20000), -19820);
        refused("3 -1", () -> x.joined(0, 1, -1), ARGUMENT);
        refused("3 20001", () -> x.joined(0, 1, 20001), ARGUMENT);
        refused("3 the same", () -> x.joined(1, 1, 5), ARGUMENT);
        refused("3 no first", () -> x.joined(-1, 1, 5), MISSING);
        refused("3 no second", () -> x.joined(0, 2, 5), MISSING);
        refused("3 no order before the same", () -> x.joined(2, 2, 5), MISSING);
        refused("3 no order before the range", () -> x.joined(0, 2, -1), MISSING);
        due("3 refused ones change nothing", () -> x.saving(0, 1), -19820);
    }

    private static void saving() {
        BatchSavings x = orders(100, 80, 60);
        due("4 none told", () -> x.saving(0, 1), 0);
        x.joined(0, 2, 150);
        due("4 told", () -> x.saving(0, 2), 10);
        due("4 the other way round", () -> x.saving(2, 0), 10);
        due("4 others are as they were", () -> x.saving(1, 2), 0);
        refused("4 the same", () -> x.saving(1, 1), ARGUMENT);
        refused("4 no first", () -> x.saving(3, 0), MISSING);
        refused("4 no second", () -> x.saving(0, -1), MISSING);
        refused("4 no order before the same", () -> x.saving(3, 3), MISSING);
    }

    private static void rule() {
        BatchSavings x = new BatchSavings();
        x.order(10, 50, 0);
        x.order(10, 50, 0);
        x.order(10, 51, 0);
        x.order(10, 1, 1);
        due("5 sizes at the limit", () -> bit(x.rule(0, 1, false)), 1);
        due("5 barred", () -> bit(x.rule(0, 1, true)), 0);
        due("5 barred still", () -> bit(x.rule(0, 1, true)), 0);
        due("5 not any more, the other way round", () -> bit(x.rule(1, 0, false)), 1);
        due("5 sizes above the limit", () -> bit(x.rule(0, 2, false)), 0);
        due("5 zones not near", () -> bit(x.rule(0, 3, false)), 0);
        x.weight(0, 600);
        x.weight(1, 400);
        due("5 weights at the limit", () -> bit(x.rule(0, 1, false)), 1);
        x.weight(1, 401);
        due("5 weights above the limit", () -> bit(x.rule(0, 1, false)), 0);
        refused("5 the same", () -> bit(x.rule(1, 1, true)), ARGUMENT);
        refused("5 no first", () -> bit(x.rule(4, 1, true)), MISSING);
        refused("5 no second", () -> bit(x.rule(1, -1, true)), MISSING);
        refused("5 no order before the same", () -> bit(x.rule(4, 4, true)), MISSING);
    }

    private static void weight() {
        BatchSavings x = orders(10, 10);
        x.open(0);
        due("6 0 at first", () -> x.told(0, 0, 4), 0);
        x.leave(0);
        due("6 most", () -> bit(x.weight(0, 1000)), 1);
        x.join(0, 0);
        due("6 it is so", () -> x.told(0, 0, 4), 1000);
        refused("6 not free", () -> bit(x.weight(0, 1)), STATE);
        refused("6 out of range before not free", () -> bit(x.weight(0, 1001)), ARGUMENT);
        x.leave(0);
        x.weight(0, 4);
        x.limit(5, 100);
        due("6 above the limit", () -> bit(x.weight(0, 6)), 0);
        due("6 at the limit", () -> bit(x.weight(1, 5)), 1);
        x.join(0, 0);
        due("6 it stays as it is", () -> x.told(0, 0, 4), 4);
        refused("6 not free before above the limit", () -> bit(x.weight(0, 6)), STATE);
        refused("6 -1", () -> bit(x.weight(1, -1)), ARGUMENT);
        refused("6 1001", () -> bit(x.weight(1, 1001)), ARGUMENT);
        refused("6 no order", () -> bit(x.weight(2, 1001)), MISSING);
        due("6 least", () -> bit(x.weight(1, 0)), 1);
    }

    private static void near() {
        BatchSavings x = new BatchSavings();
        for (int zone = 0; zone < 4; zone++) {
            x.order(10, 1, zone);
        }
        x.near(3, 1, true);
        due("7 near", () -> bit(x.rule(1, 3, false)), 1);
        due("7 near, the other way round", () -> bit(x.rule(3, 1, false)), 1);
        due("7 others are not", () -> bit(x.rule(1, 2, false)), 0);
        x.near(1, 2, true);
        due("7 each two by themselves", () -> bit(x.rule(2, 3, false)), 0);
        x.near(1, 3, false);
        due("7 not any more", () -> bit(x.rule(3, 1, false)), 0);
        due("7 the others are as they were", () -> bit(x.rule(2, 1, false)), 1);
        for (int zone : new int[] {-1, 4, Integer.MIN_VALUE}) {
            refused("7 zone " + zone, () -> nothing(() -> x.near(zone, 0, true)), ARGUMENT);
            refused("7 other " + zone, () -> nothing(() -> x.near(0, zone, true)), ARGUMENT);
        }
        refused("7 the same", () -> nothing(() -> x.near(2, 2, false)), ARGUMENT);
    }

    private static void limit() {
        BatchSavings x = new BatchSavings();
        x.order(10, 10, 0);
        x.order(10, 20, 0);
        x.order(10, 30, 0);
        x.weight(1, 500);
        x.weight(2, 600);
        due("8 none above", () -> x.limit(600, 30), 0);
        due("8 one by weight", () -> x.limit(599, 30), 1);
        due("8 one by both counts once", () -> x.limit(599, 29), 1);
        due("8 two by size", () -> x.limit(600, 19), 2);
        due("8 one by weight, one by both", () -> x.limit(499, 29), 2);
        due("8 those by either", () -> x.limit(599, 9), 3);
        due("8 least", () -> x.limit(0, 1), 3);
        due("8 most", () -> x.limit(4000, 400), 0);
        x.open(2);
        due("8 those in batches count too", () -> x.limit(4000, 29), 1);
        refused("8 weight -1", () -> x.limit(-1, 10), ARGUMENT);
        refused("8 weight 4001", () -> x.limit(4001, 10), ARGUMENT);
        refused("8 size 0", () -> x.limit(10, 0), ARGUMENT);
        refused("8 size 401", () -> x.limit(10, 401), ARGUMENT);
        due("8 refused ones change nothing", () -> bit(x.rule(0, 1, false)), 0);
        x.limit(4000, 30);
        due("8 it is the limit of sets", () -> bit(x.rule(0, 1, false)), 1);
    }

    private static void matchExactly() {
        BatchSavings x = orders(100, 100, 100, 100);
        save(x, 0, 1, 40);
        save(x, 1, 2, 50);
        save(x, 2, 3, 40);
        due("9 greatest sum", () -> x.match(4), 80);
        partners("9 greatest sum", x, 1, 0, 3, 2);
        save(x, 1, 2, 81);
        due("9 one pair is more", () -> x.match(4), 81);
        partners("9 one pair is more", x, -1, 2, 1, -1);
        x.rule(1, 2, true);
        due("9 barred", () -> x.match(4), 80);
        x.limit(1000, 1);
        due("9 none may be together", () -> x.match(4), 0);
        partners("9 none may be together", x, -1, -1, -1, -1);

        BatchSavings y = orders(100, 100);
        save(y, 0, 1, 0);
        due("9 saving 0", () -> y.match(10), 0);
        partners("9 saving 0", y, -1, -1);
        save(y, 0, 1, -5);
        due("9 saving below 0", () -> y.match(10), 0);
        save(y, 0, 1, 1);
        due("9 saving 1", () -> y.match(10), 1);
        refused("9 -1", () -> y.match(-1), ARGUMENT);
        refused("9 11", () -> y.match(11), ARGUMENT);
        partners("9 refused ones change nothing", y, 1, 0);
    }

    private static void matchExactlyOfEqualOnes() {
        BatchSavings x = orders(100, 100, 100, 100);
        for (int a = 0; a < 4; a++) {
            for (int b = a + 1; b < 4; b++) {
                save(x, a, b, 10);
            }
        }
        due("9 equal ones", () -> x.match(10), 20);
        partners("9 the first has the lowest partner", x, 1, 0, 3, 2);

        BatchSavings y = orders(100, 100, 100);
        save(y, 0, 2, 10);
        save(y, 1, 2, 10);
        due("9 none is behind all", () -> y.match(10), 10);
        partners("9 none is behind all", y, 2, -1, 0);

        BatchSavings z = orders(100, 100, 100, 100, 100);
        save(z, 1, 3, 10);
        save(z, 1, 4, 10);
        save(z, 2, 3, 10);
        save(z, 2, 4, 10);
        due("9 then the next one", () -> z.match(10), 20);
        partners("9 then the next one", z, -1, 3, 4, 1, 2);

        BatchSavings all = orders(9, 9, 9, 9, 9, 9, 9, 9, 9, 9);
        for (int a = 0; a < 10; a++) {
            for (int b = a + 1; b < 10; b++) {
                save(all, a, b, 3);
            }
        }
        due("9 ten", () -> all.match(10), 15);
        partners("9 ten", all, 1, 0, 3, 2, 5, 4, 7, 6, 9, 8);
        for (int a = 0; a < 9; a++) {
            save(all, a, 9, 7);
        }
        due("9 ten, the last is the dearest", () -> all.match(10), 19);
        partners("9 ten, the last is the dearest", all, 1, 0, 3, 2, 5, 4, 7, 6, 9, 8);
    }

    private static void matchByRule() {
        BatchSavings x = orders(100, 100, 100, 100);
        save(x, 0, 1, 40);
        save(x, 1, 2, 50);
        save(x, 2, 3, 40);
        due("9 by rule the greatest first", () -> x.match(3), 50);
        partners("9 by rule the greatest first", x, -1, 2, 1, -1);
        due("9 by rule with most 0", () -> x.match(0), 50);

        BatchSavings y = orders(100, 100, 100, 100);
        save(y, 1, 2, 10);
        save(y, 0, 3, 10);
        save(y, 0, 2, 10);
        due("9 by rule of equal ones", () -> y.match(0), 10);
        partners("9 by rule the lower first, then the lower second", y, 2, -1, 0, -1);
        y.rule(0, 2, true);
        due("9 by rule one behind the other", () -> y.match(0), 20);
        partners("9 by rule one behind the other", y, 3, 2, 1, 0);
        save(y, 1, 2, 0);
        save(y, 0, 3, -1);
        due("9 by rule above 0 alone", () -> y.match(0), 0);
        partners("9 by rule above 0 alone", y, -1, -1, -1, -1);
    }

    private static void matchFreeOrdersAnew() {
        BatchSavings x = orders(100, 100, 100, 100);
        save(x, 0, 1, 40);
        save(x, 1, 2, 50);
        save(x, 2, 3, 40);
        x.open(0);
        due("9 free orders alone, exactly as there are three", () -> x.match(3), 50);
        due("9 exactly as there are three", () -> bit(x.exact()), 1);
        partners("9 free orders alone", x, -1, 2, 1, -1);
        x.open(3);
        x.rule(1, 2, true);
        due("9 anew", () -> x.match(1), 0);
        partners("9 anew", x, -1, -1, -1, -1);
        x.leave(0);
        due("9 free again", () -> x.match(10), 40);
        partners("9 free again", x, 1, 0, -1, -1);
    }

    private static void exact() {
        BatchSavings x = orders(100, 100);
        due("10 before", () -> bit(x.exact()), 0);
        x.match(2);
        due("10 exact", () -> bit(x.exact()), 1);
        refused("10 refused", () -> x.match(11), ARGUMENT);
        due("10 refused ones change nothing", () -> bit(x.exact()), 1);
        x.match(1);
        due("10 by rule", () -> bit(x.exact()), 0);
        x.open(0);
        due("10 the latest was by rule", () -> bit(x.exact()), 0);
        x.match(1);
        due("10 free ones count", () -> bit(x.exact()), 1);
        BatchSavings none = new BatchSavings();
        none.match(0);
        due("10 none of none", () -> bit(none.exact()), 1);
    }

    private static void with() {
        BatchSavings x = orders(100, 100, 100, 100, 100);
        save(x, 0, 1, 10);
        save(x, 2, 3, 10);
        due("11 no matching yet", () -> x.with(0), -1);
        x.match(10);
        partners("11 matched", x, 1, 0, 3, 2, -1);
        x.rule(0, 1, true);
        save(x, 2, 3, -10);
        partners("11 the latest matching, whatever came after it", x, 1, 0, 3, 2, -1);
        x.open(4);
        x.join(3, 0);
        partners("11 the partner has none any more", x, 1, 0, -1, -1, -1);
        x.leave(3);
        partners("11 free again without a partner", x, 1, 0, -1, -1, -1);
        x.open(1);
        partners("11 both in a batch", x, -1, -1, -1, -1, -1);
        refused("11 no order", () -> x.with(5), MISSING);
        refused("11 order -1", () -> x.with(-1), MISSING);
    }

    private static void open() {
        BatchSavings x = orders(100, 100, 100);
        save(x, 0, 1, 10);
        x.match(10);
        refused("12 no order", () -> x.open(3), MISSING);
        due("12 with the partner", () -> x.open(1), 0);
        row("12 in this order", x, 0, 1, 0);
        due("12 alone", () -> x.open(2), 1);
        row("12 alone", x, 1, 2);
        refused("12 not free", () -> x.open(1), STATE);
        refused("12 the partner is not free", () -> x.open(0), STATE);
        x.leave(2);
        for (int batch = 2; batch < 10; batch++) {
            due("12 batch " + batch, () -> x.open(2), batch);
            x.leave(2);
        }
        refused("12 an eleventh batch", () -> x.open(2), ROOM);
        refused("12 not free before no room", () -> x.open(0), STATE);
        due("12 still free", () -> x.batch(2), -1);
        due("12 ten batches", () -> x.count(1), 10);

        BatchSavings y = orders(100, 100);
        save(y, 0, 1, 10);
        y.match(10);
        y.rule(0, 1, true);
        y.limit(0, 1);
        due("12 the partner by the latest matching", () -> y.open(0), 0);
        row("12 the partner by the latest matching", y, 0, 0, 1);

        BatchSavings z = orders(100, 100);
        save(z, 0, 1, 10);
        for (int batch = 0; batch < 10; batch++) {
            z.open(0);
            z.leave(0);
        }
        z.match(10);
        refused("12 no room for a pair", () -> z.open(0), ROOM);
        partners("12 refused ones change nothing", z, 1, 0);
    }

    private static void join() {
        BatchSavings x = orders(100, 90, 80, 70, 60);
        save(x, 0, 1, 10);
        save(x, 1, 2, 20);
        save(x, 0, 2, 70);
        x.open(0);
        due("13 the way", () -> x.join(1, 0), 180);
        due("13 the saving with the one before", () -> x.join(2, 0), 240);
        due("13 saving 0 is not below 0", () -> x.join(3, 0), 310);
        row("13 as the last one", x, 0, 0, 1, 2, 3);
        refused("13 four", () -> x.join(4, 0), ROOM);
        x.leave(3);
        save(x, 2, 4, -1);
        refused("13 saving below 0", () -> x.join(4, 0), STATE);
        save(x, 2, 4, 0);
        save(x, 0, 4, -1);
        due("13 the last one's alone counts", () -> x.join(4, 0), 300);
        refused("13 not free", () -> x.join(4, 0), STATE);
        refused("13 no order", () -> x.join(5, 0), MISSING);
        refused("13 no batch", () -> x.join(3, 1), MISSING);
        refused("13 batch -1", () -> x.join(3, -1), MISSING);
        refused("13 no batch before not free", () -> x.join(4, 1), MISSING);

        BatchSavings y = orders(100, 100, 100);
        save(y, 1, 2, 10);
        y.match(10);
        y.open(0);
        y.join(1, 0);
        partners("13 the partner has none any more", y, -1, -1, -1);
    }

    private static void joinIsRefusedInOrder() {
        BatchSavings x = new BatchSavings();
        x.order(100, 10, 0);
        x.order(100, 10, 1);
        x.order(100, 10, 2);
        x.near(0, 1, true);
        x.near(1, 2, true);
        x.open(0);
        x.join(1, 0);
        refused("13 zones near the last one's alone", () -> x.join(2, 0), STATE);
        x.near(0, 2, true);
        x.rule(0, 2, true);
        refused("13 barred for the first one", () -> x.join(2, 0), STATE);
        x.rule(0, 2, false);
        x.limit(1000, 29);
        refused("13 sizes of all", () -> x.join(2, 0), STATE);
        x.limit(1000, 30);
        x.rule(0, 1, true);
        refused("13 the set with those who are there", () -> x.join(2, 0), STATE);
        x.rule(0, 1, false);
        due("13 as a set they may", () -> x.join(2, 0), 300);

        BatchSavings y = orders(100, 100, 100, 100, 100, 100);
        y.weight(4, 500);
        y.weight(0, 501);
        y.open(0);
        refused("13 weights of all", () -> y.join(4, 0), STATE);
        y.join(1, 0);
        y.join(2, 0);
        y.join(3, 0);
        refused("13 not together before four", () -> y.join(4, 0), STATE);
        y.weight(4, 499);
        refused("13 four", () -> y.join(4, 0), ROOM);
        save(y, 3, 4, -1);
        refused("13 saving below 0 before four", () -> y.join(4, 0), STATE);
        y.open(5);
        y.leave(5);
        y.limit(498, 100);
        refused("13 above the limit alone, to an empty batch", () -> y.join(4, 1), STATE);
        y.limit(499, 100);
        due("13 to an empty batch", () -> y.join(4, 1), 100);
    }

    private static void leave() {
        BatchSavings x = orders(100, 90, 80);
        save(x, 0, 1, 10);
        save(x, 1, 2, 20);
        save(x, 0, 2, 70);
        x.open(0);
        x.join(1, 0);
        x.join(2, 0);
        due("14 from the middle", () -> x.leave(1), 2);
        row("14 the others in a row", x, 0, 0, 2);
        due("14 the way then", () -> x.told(0, 0, 1), 110);
        due("14 free", () -> x.batch(1), -1);
        refused("14 free already", () -> x.leave(1), STATE);
        due("14 the first", () -> x.leave(0), 1);
        row("14 the last", x, 0, 2);
        due("14 none left", () -> x.leave(2), 0);
        due("14 the batch stays", () -> x.count(1), 1);
        row("14 empty", x, 0);
        due("14 comes back", () -> x.join(1, 0), 90);
        refused("14 no order", () -> x.leave(3), MISSING);
    }

    private static void batch() {
        BatchSavings x = orders(100, 100, 100);
        due("15 free", () -> x.batch(0), -1);
        x.open(1);
        x.open(0);
        x.join(2, 0);
        due("15 its batch", () -> x.batch(0), 1);
        due("15 joined", () -> x.batch(2), 0);
        x.leave(0);
        due("15 left", () -> x.batch(0), -1);
        refused("15 no order", () -> x.batch(3), MISSING);
        refused("15 order -1", () -> x.batch(-1), MISSING);
    }

    private static void told() {
        BatchSavings x = new BatchSavings();
        x.order(100, 7, 0);
        x.order(90, 8, 0);
        x.order(80, 9, 0);
        x.weight(0, 100);
        x.weight(1, 20);
        x.weight(2, 3);
        save(x, 0, 1, 11);
        save(x, 1, 2, 13);
        x.open(0);
        x.join(1, 0);
        x.join(2, 0);
        row("16 orders", x, 0, 0, 1, 2);
        for (int i : new int[] {-7, 0, 3, Integer.MAX_VALUE}) {
            due("16 way, i " + i, () -> x.told(0, i, 1), 246);
            due("16 saved, i " + i, () -> x.told(0, i, 2), 24);
            due("16 size, i " + i, () -> x.told(0, i, 3), 24);
            due("16 weight, i " + i, () -> x.told(0, i, 4), 123);
        }
        save(x, 0, 1, -1);
        due("16 way by the savings now", () -> x.told(0, 0, 1), 258);
        due("16 saved by the savings now", () -> x.told(0, 0, 2), 12);
        refused("16 what -1", () -> x.told(0, 0, -1), ARGUMENT);
        refused("16 what 5", () -> x.told(0, 0, 5), ARGUMENT);
        refused("16 no batch", () -> x.told(1, 0, 5), MISSING);
        refused("16 batch -1", () -> x.told(-1, 0, 0), MISSING);
        x.leave(0);
        x.leave(1);
        x.leave(2);
        for (int what = 1; what <= 4; what++) {
            int asked = what;
            due("16 empty, what " + what, () -> x.told(0, 0, asked), 0);
        }
    }

    private static void best() {
        BatchSavings x = orders(100, 100, 100, 100, 100);
        due("17 no batch", () -> x.best(4), -1);
        for (int order = 0; order < 4; order++) {
            x.open(order);
        }
        save(x, 1, 4, 20);
        save(x, 2, 4, 30);
        save(x, 3, 4, 30);
        due("17 the greatest saving, the lowest batch", () -> x.best(4), 2);
        x.rule(2, 4, true);
        due("17 that may take it", () -> x.best(4), 3);
        x.leave(3);
        due("17 an empty one counts 0", () -> x.best(4), 1);
        save(x, 1, 4, 0);
        due("17 the lowest of 0", () -> x.best(4), 0);
        save(x, 0, 4, -1);
        due("17 below 0 may not", () -> x.best(4), 1);
        save(x, 1, 4, -1);
        due("17 the empty one", () -> x.best(4), 3);
        x.weight(4, 10);
        x.limit(9, 100);
        due("17 none may", () -> x.best(4), -1);
        refused("17 not free", () -> x.best(0), STATE);
        refused("17 no order", () -> x.best(5), MISSING);

        BatchSavings y = orders(100, 100, 100, 100, 100, 100);
        y.open(0);
        for (int order = 1; order < 4; order++) {
            y.join(order, 0);
        }
        save(y, 3, 5, 50);
        due("17 a full one may not", () -> y.best(5), -1);
        y.open(4);
        due("17 but another one", () -> y.best(5), 1);
        y.leave(0);
        due("17 full no more", () -> y.best(5), 0);
    }

    private static void share() {
        BatchSavings x = new BatchSavings();
        due("18 rests are dropped", () -> x.share(2, 3), 66);
        due("18 nothing", () -> x.share(0, 7), 0);
        due("18 more than all", () -> x.share(7, 2), 350);
        due("18 most", () -> x.share(1000000, 1), 100000000);
        due("18 of much", () -> x.share(1000000, Integer.MAX_VALUE), 0);
        refused("18 part -1", () -> x.share(-1, 5), ARGUMENT);
        refused("18 part 1000001", () -> x.share(1000001, 5), ARGUMENT);
        refused("18 all -1", () -> x.share(5, -1), ARGUMENT);
        refused("18 all 0", () -> x.share(5, 0), ARITHMETIC);
        refused("18 0 of 0", () -> x.share(0, 0), ARITHMETIC);
        refused("18 part -1 before all 0", () -> x.share(-1, 0), ARGUMENT);
        refused("18 part 1000001 before all 0", () -> x.share(1000001, 0), ARGUMENT);
    }

    private static void mean() {
        BatchSavings x = new BatchSavings();
        refused("19 no orders", () -> x.mean(), ARITHMETIC);
        for (int i = 0; i < 5; i++) {
            x.order(100, 1, 0);
        }
        due("19 nothing saved", () -> x.mean(), 0);
        save(x, 0, 1, 10);
        save(x, 2, 3, 14);
        due("19 not matched yet", () -> x.mean(), 0);
        x.match(10);
        due("19 pairs, rests are dropped", () -> x.mean(), 4);
        x.open(0);
        due("19 a batch and a pair", () -> x.mean(), 4);
        save(x, 1, 4, 27);
        x.join(4, 0);
        due("19 more in the batch", () -> x.mean(), 10);
        x.open(2);
        x.leave(3);
        due("19 the pair is gone", () -> x.mean(), 7);
        save(x, 0, 1, -44);
        due("19 below 0, rests are dropped", () -> x.mean(), -3);
    }

    private static void count() {
        BatchSavings x = orders(100, 100, 100, 100, 100);
        save(x, 0, 1, 10);
        save(x, 2, 3, 20);
        due("20 pairs before a matching", () -> x.count(3), 0);
        x.match(10);
        counts("20 matched", x, 5, 0, 5, 2, 30);
        save(x, 2, 3, 25);
        counts("20 the savings now", x, 5, 0, 5, 2, 35);
        x.open(0);
        counts("20 a pair in a batch", x, 5, 1, 3, 1, 25);
        x.join(3, 0);
        counts("20 a partner in a batch", x, 5, 1, 2, 0, 0);
        x.leave(3);
        x.leave(0);
        x.leave(1);
        counts("20 an empty batch", x, 5, 1, 5, 0, 0);
        due("20 another what", () -> x.count(5), -1);
        due("20 what -1", () -> x.count(-1), -1);
    }

    /** Ten orders and ten batches: every row is used to its end. */
    private static void fullHouse() {
        BatchSavings x = orders(100, 100, 100, 100, 100, 100, 100, 100, 100, 100);
        save(x, 8, 9, 10);
        due("8 ten orders", () -> x.limit(1000, 100), 0);
        due("9 ten orders by rule", () -> x.match(9), 10);
        due("9 ten orders exactly", () -> x.match(10), 10);
        partners("9 ten orders", x, -1, -1, -1, -1, -1, -1, -1, -1, 9, 8);
        counts("20 ten orders", x, 10, 0, 10, 1, 10);
        due("19 ten orders", () -> x.mean(), 1);
        for (int order = 0; order < 9; order++) {
            x.open(order);
        }
        x.leave(9);
        due("12 the tenth batch", () -> x.open(9), 9);
        counts("20 ten batches", x, 10, 10, 0, 0, 0);
        for (int order = 4; order < 8; order++) {
            x.leave(order);
            x.weight(order, 100);
        }
        save(x, 4, 9, 30);
        save(x, 4, 5, 40);
        save(x, 5, 6, 50);
        due("17 the last batch", () -> x.best(4), 9);
        due("13 the last batch", () -> x.join(4, 9), 170);
        due("13 its third", () -> x.join(5, 9), 230);
        due("13 its fourth", () -> x.join(6, 9), 280);
        refused("13 no fifth", () -> x.join(7, 9), ROOM);
        due("17 full", () -> x.best(7), 0);
        row("16 the last batch", x, 9, 9, 4, 5, 6);
        due("16 its saved seconds", () -> x.told(9, 0, 2), 120);
        due("16 its size", () -> x.told(9, 0, 3), 4);
        due("16 its weight", () -> x.told(9, 0, 4), 300);
        due("19 the last batch", () -> x.mean(), 12);
        due("14 the last of it", () -> x.leave(6), 3);
        due("9 two free", () -> x.match(2), 0);
        due("10 two free", () -> bit(x.exact()), 1);
    }

    /** Orders of size 1 in zone 0. */
    private static BatchSavings orders(int... seconds) {
        BatchSavings x = new BatchSavings();
        for (int each : seconds) {
            x.order(each, 1, 0);
        }
        return x;
    }

    /** Tells joined seconds so that the two save that many: joined seconds of 0 first, which save all that both have. */
    private static void save(BatchSavings x, int a, int b, int saving) {
        int both = x.joined(a, b, 0);
        x.joined(a, b, both - saving);
    }

    private static void partners(String what, BatchSavings x, int... want) {
        for (int order = 0; order < want.length; order++) {
            int asked = order;
            due(what + ": with " + order, () -> x.with(asked), want[order]);
        }
    }

    private static void row(String what, BatchSavings x, int batch, int... want) {
        for (int i = 0; i < want.length; i++) {
            int asked = i;
            due(what + ": order " + i, () -> x.told(batch, asked, 0), want[i]);
            due(what + ": batch of " + want[i], () -> x.batch(want[asked]), batch);
        }
        refused(what + ": no more", () -> x.told(batch, want.length, 0), ARGUMENT);
        refused(what + ": none before", () -> x.told(batch, -1, 0), ARGUMENT);
    }

    private static void counts(String what, BatchSavings x, int... want) {
        for (int i = 0; i < want.length; i++) {
            int asked = i;
            due(what + ": count " + i, () -> x.count(asked), want[i]);
        }
    }

    private static int bit(boolean value) {
        return value ? 1 : 0;
    }

    private static int nothing(Runnable call) {
        call.run();
        return 0;
    }

    private static void due(String what, IntSupplier call, int want) {
        checks++;
        try {
            int got = call.getAsInt();
            if (got != want) {
                fail(what + " answered " + got + ", due is " + want);
            }
        } catch (RuntimeException e) {
            fail(what + " threw " + e + ", due is " + want);
        }
    }

    private static void refused(String what, IntSupplier call, Class<?> want) {
        checks++;
        try {
            fail(what + " answered " + call.getAsInt() + ", due is " + want.getName());
        } catch (RuntimeException e) {
            if (e.getClass() != want) {
                fail(what + " threw " + e + ", due is " + want.getName());
            } else if ("/ by zero".equals(e.getMessage())) {
                fail(what + " was thrown by the machine");
            }
        }
    }

    private static void fail(String text) {
        wrong++;
        System.out.println(text);
    }
}

import java.util.NoSuchElementException;

/**
 * The document's sentences that name a boundary, each with a test of its own (its name is the sentence): what is
 * answered at the ends of the ranges, where nothing is yet, and where no room is left. What is refused there, and
 * that it changes nothing, stands in BatchSavingsRefusals.
 */
public final class BatchSavingsEdges {
    private static final Class<?> MISSING = NoSuchElementException.class;
    private static final Class<?> ARGUMENT = IllegalArgumentException.class;
    private static final Class<?> STATE = IllegalStateException.class;
    private static final Class<?> ROOM = UnsupportedOperationException.class;
    private static final Class<?> ARITHMETIC = ArithmeticException.class;
    private static final int LOWEST = Integer.MIN_VALUE;
    private static final int HIGHEST = Integer.MAX_VALUE;

    private static String test = "";
    private static int tests = 0;
    private static int checks = 0;
    private static int wrong = 0;

    private interface Call {
        Object run();
    }

    public static void main(String[] args) {
        terms();
        matchings();
        promisesOneToEight();
        promisesNineToFourteen();
        promisesFifteenToTwenty();
        System.out.println(tests + " tests, " + checks + " checks, " + wrong + " wrong");
        if (wrong != 0) {
            System.exit(1);
        }
    }

    private static void terms() {
        test("at most 512 calls", BatchSavingsEdges::allCalls);
        test("ORDERS 0, 1, .. (at most 10, as they come)", BatchSavingsEdges::tenOrders);
        test("have SECONDS 1 .. 10000", BatchSavingsEdges::seconds);
        test("a size 1 .. 100", BatchSavingsEdges::size);
        test("a zone 0 .. 3", BatchSavingsEdges::zone);
        test("a weight 0 .. 1000", BatchSavingsEdges::weightRange);
        test("(0 at first)", BatchSavingsEdges::weightAtFirst);
        test("JOINED seconds (0 .. 20000) once they are told", BatchSavingsEdges::joinedRange);
        test("the seconds of both less their joined ones", BatchSavingsEdges::savingRange);
        test("0 as long as none are told", BatchSavingsEdges::savingUntold);
        test("none of them are BARRED for one another", BatchSavingsEdges::barredInASet);
        test("their zones are NEAR one another", BatchSavingsEdges::zonesOfASet);
        test("(each is to itself", BatchSavingsEdges::zoneToItself);
        test("others are once they are told)", BatchSavingsEdges::zonesOnceTold);
        test("the sums of their sizes are not above the limit", BatchSavingsEdges::sizesOfASet);
        test("the sums of their weights are not above the limit", BatchSavingsEdges::weightsOfASet);
        test("(100 at first), sizes", BatchSavingsEdges::sizeLimitAtFirst);
        test("(1000 at first), weights", BatchSavingsEdges::weightLimitAtFirst);
        test("FREE as long as it is in no OPEN batch", BatchSavingsEdges::free);
        test("BATCHES 0, 1, .. (at most 10)", BatchSavingsEdges::tenBatches);
        test("with one to four orders in a row", BatchSavingsEdges::fourInARow);
        test("A batch's way", BatchSavingsEdges::wayOfEachLength);
        test("less the saving of each with the one before it", BatchSavingsEdges::wayAfterOneHasLeft);
    }

    private static void matchings() {
        test("A MATCHING pairs free orders", BatchSavingsEdges::pairsFreeOrders);
        test("each is in one pair at most", BatchSavingsEdges::onePairAtMost);
        test("the two may be together", BatchSavingsEdges::pairsMayBeTogether);
        test("their saving is above 0", BatchSavingsEdges::pairsSave);
        test("EXACT: the greatest sum of savings", BatchSavingsEdges::greatestSum);
        test("the first free order has as low a partner as possible", BatchSavingsEdges::lowestPartner);
        test("(none is behind all)", BatchSavingsEdges::noneIsBehindAll);
        test("then the next one that has none yet, and so on", BatchSavingsEdges::thenTheNext);
        test("BY RULE: the one with the greatest saving", BatchSavingsEdges::ruleGreatest);
        test("of orders that have no partner yet", BatchSavingsEdges::ruleNoPartnerYet);
        test("of equal ones that with the lower first order", BatchSavingsEdges::ruleLowerFirst);
        test("then the lower second one", BatchSavingsEdges::ruleLowerSecond);
    }

    private static void promisesOneToEight() {
        test("1 No orders", BatchSavingsEdges::newHasNoOrders);
        test("1 zones are near to themselves alone", BatchSavingsEdges::newZones);
        test("1 each object by itself", BatchSavingsEdges::twoObjects);
        test("2 An order: its number", BatchSavingsEdges::orderNumber);
        test("3 (instead of earlier ones)", BatchSavingsEdges::joinedAgain);
        test("3 their saving then", BatchSavingsEdges::joinedAnswers);
        test("4 The saving of two orders", BatchSavingsEdges::savingOfTwo);
        test("5 Two orders are barred for each other, or not", BatchSavingsEdges::ruleOnAndOff);
        test("5 whether they may be together then", BatchSavingsEdges::ruleAnswers);
        test("6 An order's weight: true", BatchSavingsEdges::weightTrue);
        test("6 false if it is above the limit", BatchSavingsEdges::weightFalse);
        test("7 Two zones are near one another, or not", BatchSavingsEdges::nearOnAndOff);
        test("8 The limits of weight (0 .. 4000)", BatchSavingsEdges::limitOfWeight);
        test("8 The limits of size (1 .. 400)", BatchSavingsEdges::limitOfSize);
        test("8 how many orders alone are above one of them", BatchSavingsEdges::limitAnswers);
        test("8 no orders", BatchSavingsEdges::limitOfNone);
    }

    private static void promisesNineToFourteen() {
        test("9 exactly if there are no more of them than most", BatchSavingsEdges::matchMost);
        test("9 no free orders", BatchSavingsEdges::matchOfNone);
        test("9 matched anew", BatchSavingsEdges::matchAnew);
        test("9 the sum of savings", BatchSavingsEdges::matchGreatestAnswer);
        test("10 (false before)", BatchSavingsEdges::exactBefore);
        test("10 Whether the latest matching was exact", BatchSavingsEdges::exactLatest);
        test("11 -1 if it has none", BatchSavingsEdges::withNone);
        test("11 (An order that is not free has none", BatchSavingsEdges::withNotFree);
        test("11 nor has its partner any more)", BatchSavingsEdges::withPartnerLost);
        test("11 an order that came after the latest matching", BatchSavingsEdges::withNewOrder);
        test("12 A free order and its partner, if it has one, in this order", BatchSavingsEdges::openPair);
        test("12 a free order alone, even above a limit", BatchSavingsEdges::openAlone);
        test("12 its partner, even if the two may not be together now", BatchSavingsEdges::openPartedByRules);
        test("12 ten batches are no fewer when they are empty", BatchSavingsEdges::openTenEmpty);
        test("13 as its last one: the batch's way then", BatchSavingsEdges::joinWay);
        test("13 an empty batch", BatchSavingsEdges::joinEmpty);
        test("13 it and all the batch's orders, as a set", BatchSavingsEdges::joinSet);
        test("13 the saving with the last one is below 0", BatchSavingsEdges::joinLastAlone);
        test("13 it has four", BatchSavingsEdges::joinFour);
        test("14 (which has none, perhaps, but stays)", BatchSavingsEdges::leaveStays);
        test("14 and is free", BatchSavingsEdges::leaveFree);
        test("14 how many it has left", BatchSavingsEdges::leaveAnswers);
    }

    private static void promisesFifteenToTwenty() {
        test("15 -1 if it is free", BatchSavingsEdges::batchOfFree);
        test("16 Order i of a batch", BatchSavingsEdges::toldOrders);
        test("16 whatever i", BatchSavingsEdges::toldWhateverI);
        test("16 an empty batch", BatchSavingsEdges::toldEmpty);
        test("16 the most that a batch can have", BatchSavingsEdges::toldMost);
        test("17 no batches", BatchSavingsEdges::bestOfNone);
        test("17 that may take it", BatchSavingsEdges::bestMayTake);
        test("17 with the greatest saving with its last one", BatchSavingsEdges::bestGreatest);
        test("17 (an empty one: 0)", BatchSavingsEdges::bestEmpty);
        test("17 of equal ones the lowest", BatchSavingsEdges::bestLowest);
        test("17 -1 if none may", BatchSavingsEdges::bestNoneMay);
        test("18 (rests are dropped)", BatchSavingsEdges::shareRests);
        test("18 the greatest numbers", BatchSavingsEdges::shareGreatest);
        test("18 all is 0", BatchSavingsEdges::shareOfNothing);
        test("19 All seconds that batches and matched pairs save", BatchSavingsEdges::meanOfAll);
        test("19 divided by all orders (rests are dropped)", BatchSavingsEdges::meanRests);
        test("19 there are none", BatchSavingsEdges::meanOfNone);
        test("19 the greatest and the least", BatchSavingsEdges::meanGreatest);
        test("20 0 orders, 1 batches, 2 free orders", BatchSavingsEdges::countThings);
        test("20 3 pairs by the latest matching", BatchSavingsEdges::countPairs);
        test("20 4 seconds that these save", BatchSavingsEdges::countSeconds);
        test("20 4 by joined seconds told after the matching", BatchSavingsEdges::countSecondsTold);
        test("20 -1 for another what", BatchSavingsEdges::countAnother);
    }

    // Terms

    private static void allCalls() {
        BatchSavings x = ten(100);
        for (int call = 10; call < 508; call += 3) {
            due("open or no room", call < 40 ? Integer.valueOf((call - 10) / 3) : ROOM, () -> x.open(0));
            due("leave", call < 40 ? Integer.valueOf(0) : STATE, () -> x.leave(0));
            due("match", 0, () -> x.match(10));
        }
        due("call 509", 10, () -> x.count(1));
        due("call 510", 0, () -> x.best(0));
        due("call 511", 100, () -> x.join(0, 9));
        due("call 512", 9, () -> x.batch(0));
    }

    private static void tenOrders() {
        BatchSavings x = new BatchSavings();
        for (int order = 0; order < 10; order++) {
            int asked = order;
            due("not there yet " + order, MISSING, () -> x.batch(asked));
            due("order " + order, order, () -> x.order(10, 1, 0));
            due("there " + order, -1, () -> x.batch(asked));
            due("how many", order + 1, () -> x.count(0));
        }
        due("order 10", ROOM, () -> x.order(10, 1, 0));
        due("order 10 is not there", MISSING, () -> x.batch(10));
        due("order -1 is not there", MISSING, () -> x.batch(-1));
    }

    private static void seconds() {
        BatchSavings x = new BatchSavings();
        due("0", ARGUMENT, () -> x.order(0, 1, 0));
        due("1", 0, () -> x.order(1, 1, 0));
        due("10000", 1, () -> x.order(10000, 1, 0));
        due("10001", ARGUMENT, () -> x.order(10001, 1, 0));
        x.open(0);
        x.open(1);
        due("way of 1", 1, () -> x.told(0, 0, 1));
        due("way of 10000", 10000, () -> x.told(1, 0, 1));
    }

    private static void size() {
        BatchSavings x = new BatchSavings();
        due("0", ARGUMENT, () -> x.order(10, 0, 0));
        due("1", 0, () -> x.order(10, 1, 0));
        due("100", 1, () -> x.order(10, 100, 0));
        due("101", ARGUMENT, () -> x.order(10, 101, 0));
        x.open(0);
        x.open(1);
        due("size 1", 1, () -> x.told(0, 0, 3));
        due("size 100", 100, () -> x.told(1, 0, 3));
    }

    private static void zone() {
        BatchSavings x = new BatchSavings();
        due("-1", ARGUMENT, () -> x.order(10, 1, -1));
        due("0", 0, () -> x.order(10, 1, 0));
        due("3", 1, () -> x.order(10, 1, 3));
        due("4", ARGUMENT, () -> x.order(10, 1, 4));
        due("0 again", 2, () -> x.order(10, 1, 0));
        due("3 again", 3, () -> x.order(10, 1, 3));
        due("0 and 3", false, () -> x.rule(0, 1, false));
        due("0 and 0", true, () -> x.rule(0, 2, false));
        due("3 and 3", true, () -> x.rule(1, 3, false));
    }

    private static void weightRange() {
        BatchSavings x = orders(10);
        x.open(0);
        x.leave(0);
        due("-1", ARGUMENT, () -> x.weight(0, -1));
        due("1000", true, () -> x.weight(0, 1000));
        due("1001", ARGUMENT, () -> x.weight(0, 1001));
        x.join(0, 0);
        due("it weighs 1000", 1000, () -> x.told(0, 0, 4));
        x.leave(0);
        due("0", true, () -> x.weight(0, 0));
        x.join(0, 0);
        due("it weighs 0", 0, () -> x.told(0, 0, 4));
        x.leave(0);
        x.limit(4000, 400);
        due("1001, the limit being higher", ARGUMENT, () -> x.weight(0, 1001));
    }

    private static void weightAtFirst() {
        BatchSavings x = ten(10);
        due("the least limit", 0, () -> x.limit(0, 1));
        for (int order = 0; order < 10; order++) {
            int asked = order;
            x.open(order);
            due("order " + order, 0, () -> x.told(asked, 0, 4));
        }
    }

    private static void joinedRange() {
        BatchSavings x = orders(100, 200);
        due("-1", ARGUMENT, () -> x.joined(0, 1, -1));
        due("0", 300, () -> x.joined(0, 1, 0));
        due("0 are told", 300, () -> x.saving(0, 1));
        due("20000", -19700, () -> x.joined(0, 1, 20000));
        due("20000 are told", -19700, () -> x.saving(0, 1));
        due("20001", ARGUMENT, () -> x.joined(0, 1, 20001));
    }

    private static void savingRange() {
        BatchSavings x = orders(10000, 10000, 1, 1);
        due("the greatest", 20000, () -> x.joined(0, 1, 0));
        due("the least", -19998, () -> x.joined(2, 3, 20000));
        due("as much as both", 0, () -> x.joined(0, 1, 20000));
        due("1 less", 1, () -> x.joined(0, 1, 19999));
        due("as little as both", 0, () -> x.joined(2, 3, 2));
        due("1 more", -1, () -> x.joined(2, 3, 3));
    }

    private static void savingUntold() {
        BatchSavings x = ten(10000);
        x.joined(0, 1, 0);
        for (int a = 0; a < 10; a++) {
            for (int b = 0; b < 10; b++) {
                int one = a;
                int other = b;
                if (a != b && a + b != 1) {
                    due(a + " and " + b, 0, () -> x.saving(one, other));
                }
            }
        }
    }

    /** Of a batch of three and a fourth, each two that can be barred. */
    private static void barredInASet() {
        for (int a = 0; a < 4; a++) {
            for (int b = a + 1; b < 4; b++) {
                BatchSavings x = ten(100);
                x.open(0);
                x.join(1, 0);
                x.join(2, 0);
                x.rule(b, a, true);
                due("barred " + a + " " + b, STATE, () -> x.join(3, 0));
                due("best, barred " + a + " " + b, -1, () -> x.best(3));
                x.rule(a, b, false);
                due("no more", 400, () -> x.join(3, 0));
            }
        }
    }

    /** Of a batch in zones 0, 1 and 2 and a fourth in 3, each two zones that can be apart. */
    private static void zonesOfASet() {
        for (int a = 0; a < 4; a++) {
            for (int b = a + 1; b < 4; b++) {
                BatchSavings x = inZones(0, 1, 2, 3);
                allNear(x);
                x.open(0);
                x.join(1, 0);
                x.join(2, 0);
                x.near(b, a, false);
                due("apart " + a + " " + b, STATE, () -> x.join(3, 0));
                due("best, apart " + a + " " + b, -1, () -> x.best(3));
                x.near(a, b, true);
                due("near", 400, () -> x.join(3, 0));
            }
        }
    }

    private static void zoneToItself() {
        BatchSavings x = inZones(0, 1, 2, 3, 0, 1, 2, 3);
        for (int zone = 0; zone < 4; zone++) {
            int asked = zone;
            due("zone " + zone, true, () -> x.rule(asked, asked + 4, false));
            due("not to itself " + zone, ARGUMENT, () -> near(x, asked, asked, false));
            due("still " + zone, true, () -> x.rule(asked, asked + 4, false));
        }
    }

    private static void zonesOnceTold() {
        for (int a = 0; a < 4; a++) {
            for (int b = 0; b < 4; b++) {
                if (a != b) {
                    onceTold(a, b);
                }
            }
        }
    }

    private static void onceTold(int a, int b) {
        BatchSavings x = inZones(0, 1, 2, 3);
        due("not yet " + a + " " + b, false, () -> x.rule(a, b, false));
        x.near(a, b, true);
        for (int one = 0; one < 4; one++) {
            for (int other = one + 1; other < 4; other++) {
                int first = one;
                int second = other;
                due("told " + a + " " + b + ", asked " + one + " " + other,
                        one == Math.min(a, b) && other == Math.max(a, b), () -> x.rule(first, second, false));
            }
        }
    }

    private static void sizesOfASet() {
        BatchSavings x = new BatchSavings();
        for (int size : new int[] {1, 100, 100, 99, 100}) {
            x.order(100, size, 0);
        }
        x.limit(0, 101);
        due("two at the limit", true, () -> x.rule(0, 1, false));
        x.limit(0, 100);
        due("two above", false, () -> x.rule(0, 1, false));
        x.open(0);
        x.limit(0, 400);
        x.join(1, 0);
        x.limit(0, 200);
        due("three above", STATE, () -> x.join(2, 0));
        x.limit(0, 201);
        due("three at the limit", 300, () -> x.join(2, 0));
        x.limit(0, 299);
        due("four above", STATE, () -> x.join(3, 0));
        x.limit(0, 300);
        due("four at the limit", 400, () -> x.join(3, 0));
        x.leave(0);
        x.limit(0, 398);
        due("the others above", STATE, () -> x.join(4, 0));
        x.limit(0, 399);
        due("the others at the limit", 400, () -> x.join(4, 0));
    }

    private static void weightsOfASet() {
        BatchSavings x = orders(100, 100, 100, 100, 100);
        int[] weights = {1, 1000, 1000, 999, 1000};
        for (int order = 0; order < 5; order++) {
            x.weight(order, weights[order]);
        }
        x.limit(1001, 100);
        due("two at the limit", true, () -> x.rule(0, 1, false));
        x.limit(1000, 100);
        due("two above", false, () -> x.rule(0, 1, false));
        x.open(0);
        x.limit(4000, 100);
        x.join(1, 0);
        x.limit(2000, 100);
        due("three above", STATE, () -> x.join(2, 0));
        x.limit(2001, 100);
        due("three at the limit", 300, () -> x.join(2, 0));
        x.limit(2999, 100);
        due("four above", STATE, () -> x.join(3, 0));
        x.limit(3000, 100);
        due("four at the limit", 400, () -> x.join(3, 0));
        x.leave(0);
        x.limit(3998, 100);
        due("the others above", STATE, () -> x.join(4, 0));
        x.limit(3999, 100);
        due("the others at the limit", 400, () -> x.join(4, 0));
    }

    private static void sizeLimitAtFirst() {
        BatchSavings x = new BatchSavings();
        for (int size : new int[] {1, 99, 100, 50, 50, 51}) {
            x.order(100, size, 0);
        }
        due("1 and 99", true, () -> x.rule(0, 1, false));
        due("1 and 100", false, () -> x.rule(0, 2, false));
        due("50 and 50", true, () -> x.rule(3, 4, false));
        due("50 and 51", false, () -> x.rule(3, 5, false));
    }

    private static void weightLimitAtFirst() {
        BatchSavings x = orders(100, 100, 100);
        due("1000 alone", true, () -> x.weight(0, 1000));
        due("1", true, () -> x.weight(1, 1));
        due("1000 and 0", true, () -> x.rule(0, 2, false));
        due("1000 and 1", false, () -> x.rule(0, 1, false));
        due("999", true, () -> x.weight(0, 999));
        due("999 and 1", true, () -> x.rule(0, 1, false));
    }

    private static void free() {
        BatchSavings x = orders(100, 100, 100);
        save(x, 0, 1, 10);
        due("at first", 3, () -> x.count(2));
        x.match(10);
        due("a partner is no batch", 3, () -> x.count(2));
        x.open(0);
        due("two in a batch", 1, () -> x.count(2));
        due("weight of one that is not", STATE, () -> x.weight(1, 5));
        x.join(2, 0);
        due("three in a batch", 0, () -> x.count(2));
        x.leave(1);
        due("one has left", 1, () -> x.count(2));
        due("its weight", true, () -> x.weight(1, 5));
    }

    private static void tenBatches() {
        BatchSavings x = ten(100);
        for (int batch = 0; batch < 10; batch++) {
            int asked = batch;
            due("not there yet " + batch, MISSING, () -> x.told(asked, 0, 1));
            due("batch " + batch, batch, () -> x.open(asked));
            due("there " + batch, asked, () -> x.told(asked, 0, 0));
            due("how many", batch + 1, () -> x.count(1));
        }
        x.leave(0);
        due("batch 10", ROOM, () -> x.open(0));
        due("batch 10 is not there", MISSING, () -> x.told(10, 0, 1));
        due("batch -1 is not there", MISSING, () -> x.told(-1, 0, 1));
        due("no order in batch 10", MISSING, () -> x.join(0, 10));
        due("how many", 10, () -> x.count(1));
        save(x, 0, 9, 20);
        due("the last one takes another", 180, () -> x.join(0, 9));
        due("mean over all ten", 2, () -> x.mean());
    }

    private static void fourInARow() {
        BatchSavings x = ten(100);
        x.open(3);
        row("one", x, 0, 3);
        x.join(1, 0);
        row("two", x, 0, 3, 1);
        x.join(2, 0);
        row("three", x, 0, 3, 1, 2);
        x.join(0, 0);
        row("four", x, 0, 3, 1, 2, 0);
        due("a fifth", ROOM, () -> x.join(9, 0));
        row("four still", x, 0, 3, 1, 2, 0);
    }

    private static void wayOfEachLength() {
        BatchSavings x = orders(1000, 200, 30, 4);
        save(x, 0, 1, 100);
        save(x, 1, 2, 20);
        save(x, 2, 3, 3);
        save(x, 0, 2, 500);
        save(x, 0, 3, 600);
        save(x, 1, 3, 150);
        due("no batch", MISSING, () -> x.told(0, 0, 1));
        x.open(0);
        due("of one", 1000, () -> x.told(0, 0, 1));
        due("of two", 1100, () -> x.join(1, 0));
        due("of three", 1110, () -> x.join(2, 0));
        due("of four", 1111, () -> x.join(3, 0));
        for (int order = 0; order < 4; order++) {
            x.leave(order);
        }
        due("of none", 0, () -> x.told(0, 0, 1));
    }

    private static void wayAfterOneHasLeft() {
        for (int gone = 0; gone < 4; gone++) {
            BatchSavings x = orders(100, 100, 100, 100);
            int[] chain = {1, 2, 4};
            for (int i = 0; i < 3; i++) {
                save(x, i, i + 1, chain[i]);
            }
            save(x, 0, 2, 8);
            save(x, 1, 3, 16);
            x.open(0);
            x.join(1, 0);
            x.join(2, 0);
            x.join(3, 0);
            x.leave(gone);
            int[] saved = {2 + 4, 8 + 4, 1 + 16, 1 + 2};
            due("without " + gone, 300 - saved[gone], () -> x.told(0, 0, 1));
            due("saved without " + gone, saved[gone], () -> x.told(0, 0, 2));
        }
    }

    // Matchings

    private static void pairsFreeOrders() {
        for (int most : new int[] {0, 10}) {
            BatchSavings x = orders(100, 100, 100, 100);
            save(x, 0, 1, 50);
            save(x, 1, 2, 40);
            save(x, 2, 3, 5);
            x.open(1);
            due("1 is not free", 5, () -> x.match(most));
            partners(x, -1, -1, 3, 2);
            x.open(2);
            due("one is free", 0, () -> x.match(most));
            partners(x, -1, -1, -1, -1);
            x.leave(1);
            due("two are free", 50, () -> x.match(most));
            partners(x, 1, 0, -1, -1);
        }
    }

    private static void onePairAtMost() {
        for (int most : new int[] {0, 10}) {
            BatchSavings x = orders(100, 100, 100);
            saveAll(x, 3, 10);
            due("one of three", 10, () -> x.match(most));
            partners(x, 1, 0, -1);
            x.order(100, 1, 0);
            saveAll(x, 4, 10);
            due("two of four", 20, () -> x.match(most));
            partners(x, 1, 0, 3, 2);
        }
    }

    private static void pairsMayBeTogether() {
        for (int most : new int[] {0, 10}) {
            BatchSavings x = new BatchSavings();
            x.order(100, 40, 0);
            x.order(100, 60, 1);
            x.weight(0, 400);
            x.weight(1, 600);
            save(x, 0, 1, 10);
            due("zones not near", 0, () -> x.match(most));
            x.near(0, 1, true);
            due("sizes and weights at the limits", 10, () -> x.match(most));
            x.limit(999, 100);
            due("weights above", 0, () -> x.match(most));
            x.limit(1000, 99);
            due("sizes above", 0, () -> x.match(most));
            x.limit(1000, 100);
            x.rule(0, 1, true);
            due("barred", 0, () -> x.match(most));
            partners(x, -1, -1);
            x.rule(0, 1, false);
            due("not barred", 10, () -> x.match(most));
            partners(x, 1, 0);
        }
    }

    private static void pairsSave() {
        for (int most : new int[] {0, 10}) {
            BatchSavings x = orders(100, 100);
            due("none told", 0, () -> x.match(most));
            partners(x, -1, -1);
            save(x, 0, 1, -1);
            due("-1", 0, () -> x.match(most));
            partners(x, -1, -1);
            save(x, 0, 1, 0);
            due("0", 0, () -> x.match(most));
            partners(x, -1, -1);
            due("0 is no pair", 0, () -> x.count(3));
            save(x, 0, 1, 1);
            due("1", 1, () -> x.match(most));
            partners(x, 1, 0);
            due("1 is a pair", 1, () -> x.count(3));
        }
    }

    private static void greatestSum() {
        BatchSavings x = orders(100, 100, 100, 100);
        save(x, 1, 2, 99);
        save(x, 0, 1, 50);
        save(x, 2, 3, 50);
        due("two pairs are 1 more", 100, () -> x.match(4));
        partners(x, 1, 0, 3, 2);
        save(x, 1, 2, 101);
        due("one pair is 1 more", 101, () -> x.match(4));
        partners(x, -1, 2, 1, -1);
        save(x, 1, 2, 100);
        due("equal", 100, () -> x.match(4));
        partners(x, 1, 0, 3, 2);
    }

    private static void lowestPartner() {
        BatchSavings x = ten(100);
        for (int other = 9; other >= 1; other--) {
            save(x, 0, other, 10);
            due("sum", 10, () -> x.match(10));
            int lowest = other;
            due("lowest partner", lowest, () -> x.with(0));
        }
        BatchSavings y = orders(100, 100, 100, 100, 100);
        saveAll(y, 5, 10);
        y.open(0);
        due("1 is the first free order", 20, () -> y.match(10));
        partners(y, -1, 2, 1, 4, 3);
        y.rule(1, 2, true);
        due("3 is as low as possible for it", 20, () -> y.match(10));
        partners(y, -1, 3, 4, 1, 2);
    }

    private static void noneIsBehindAll() {
        BatchSavings x = ten(100);
        save(x, 8, 9, 10);
        save(x, 0, 9, 10);
        due("sum", 10, () -> x.match(10));
        partners(x, 9, -1, -1, -1, -1, -1, -1, -1, -1, 0);
        save(x, 8, 9, 11);
        due("but for a greater sum", 11, () -> x.match(10));
        partners(x, -1, -1, -1, -1, -1, -1, -1, -1, 9, 8);
    }

    private static void thenTheNext() {
        BatchSavings x = ten(100);
        saveAll(x, 10, 1);
        due("sum", 5, () -> x.match(10));
        partners(x, 1, 0, 3, 2, 5, 4, 7, 6, 9, 8);
        x.rule(0, 1, true);
        due("0 and 1 barred", 5, () -> x.match(10));
        partners(x, 2, 3, 0, 1, 5, 4, 7, 6, 9, 8);
        x.rule(8, 9, true);
        x.rule(7, 9, true);
        due("9 not with 8 and 7", 5, () -> x.match(10));
        partners(x, 2, 3, 0, 1, 5, 4, 9, 8, 7, 6);
    }

    private static void ruleGreatest() {
        BatchSavings x = orders(100, 100, 100, 100);
        save(x, 1, 2, 99);
        save(x, 0, 1, 98);
        save(x, 2, 3, 98);
        due("the greatest alone", 99, () -> x.match(3));
        partners(x, -1, 2, 1, -1);
        save(x, 1, 2, 97);
        due("no more the greatest", 196, () -> x.match(3));
        partners(x, 1, 0, 3, 2);
    }

    private static void ruleNoPartnerYet() {
        BatchSavings x = ten(100);
        for (int order = 0; order < 9; order++) {
            save(x, order, order + 1, order + 1);
        }
        due("9, 7, 5, 3 and 1", 25, () -> x.match(9));
        partners(x, 1, 0, 3, 2, 5, 4, 7, 6, 9, 8);
        save(x, 1, 2, 10);
        due("10, 9, 7 and 5: 0 and 3 are left", 31, () -> x.match(9));
        partners(x, -1, 2, 1, -1, 5, 4, 7, 6, 9, 8);
    }

    private static void ruleLowerFirst() {
        BatchSavings x = orders(100, 100, 100, 100);
        save(x, 1, 2, 10);
        save(x, 0, 3, 10);
        save(x, 2, 3, 10);
        due("0 and 3 before 1 and 2", 20, () -> x.match(0));
        partners(x, 3, 2, 1, 0);
        x.rule(1, 2, true);
        due("0 and 3 alone", 10, () -> x.match(0));
        partners(x, 3, -1, -1, 0);
        save(x, 0, 3, 9);
        due("the greater one first", 10, () -> x.match(0));
        partners(x, -1, -1, 3, 2);
    }

    private static void ruleLowerSecond() {
        BatchSavings x = orders(100, 100, 100, 100);
        save(x, 0, 3, 10);
        save(x, 0, 2, 10);
        save(x, 0, 1, 10);
        due("0 and 1", 10, () -> x.match(0));
        partners(x, 1, 0, -1, -1);
        save(x, 0, 1, 9);
        due("0 and 2", 10, () -> x.match(0));
        partners(x, 2, -1, 0, -1);
        save(x, 0, 3, 11);
        due("0 and 3", 11, () -> x.match(0));
        partners(x, 3, -1, -1, 0);
    }

    // 1 .. 8

    private static void newHasNoOrders() {
        BatchSavings x = new BatchSavings();
        counts(x, 0, 0, 0, 0, 0);
        due("joined", MISSING, () -> x.joined(0, 1, 5));
        due("saving", MISSING, () -> x.saving(0, 1));
        due("rule", MISSING, () -> x.rule(0, 1, true));
        due("weight", MISSING, () -> x.weight(0, 5));
        due("with", MISSING, () -> x.with(0));
        due("open", MISSING, () -> x.open(0));
        due("join", MISSING, () -> x.join(0, 0));
        due("leave", MISSING, () -> x.leave(0));
        due("batch", MISSING, () -> x.batch(0));
        due("told", MISSING, () -> x.told(0, 0, 0));
        due("best", MISSING, () -> x.best(0));
        due("exact", false, () -> x.exact());
    }

    private static void newZones() {
        BatchSavings x = inZones(0, 0, 1, 1, 2, 2, 3, 3);
        for (int a = 0; a < 8; a++) {
            for (int b = a + 1; b < 8; b++) {
                int one = a;
                int other = b;
                due(a + " and " + b, a / 2 == b / 2, () -> x.rule(one, other, false));
            }
        }
    }

    private static void twoObjects() {
        BatchSavings x = orders(100, 100);
        BatchSavings y = orders(100, 100);
        save(x, 0, 1, 10);
        x.limit(0, 1);
        x.match(10);
        x.open(0);
        due("saving", 0, () -> y.saving(0, 1));
        due("limits", true, () -> y.rule(0, 1, false));
        due("exact", false, () -> y.exact());
        due("batches", 0, () -> y.count(1));
    }

    private static void orderNumber() {
        BatchSavings x = new BatchSavings();
        due("refused", ARGUMENT, () -> x.order(10, 1, 4));
        due("the first", 0, () -> x.order(10, 1, 0));
        x.open(0);
        due("refused again", ARGUMENT, () -> x.order(10, 101, 0));
        due("the second", 1, () -> x.order(10, 1, 0));
    }

    private static void joinedAgain() {
        BatchSavings x = orders(100, 100);
        x.joined(0, 1, 150);
        due("greater", 1, () -> x.joined(0, 1, 199));
        due("smaller, the other way round", 200, () -> x.joined(1, 0, 0));
        due("the latest", 200, () -> x.saving(0, 1));
        due("the latest, the other way round", 200, () -> x.saving(1, 0));
        due("0 once more", 200, () -> x.joined(0, 1, 0));
    }

    private static void joinedAnswers() {
        BatchSavings x = ten(10000);
        for (int a = 0; a < 10; a++) {
            for (int b = 0; b < 10; b++) {
                int one = a;
                int other = b;
                int seconds = a * 10 + b;
                if (a != b) {
                    due(a + " and " + b, 20000 - seconds, () -> x.joined(one, other, seconds));
                }
            }
        }
        for (int a = 0; a < 10; a++) {
            for (int b = 0; b < a; b++) {
                int one = a;
                int other = b;
                due("kept " + a + " " + b, 20000 - a * 10 - b, () -> x.saving(one, other));
                due("kept " + b + " " + a, 20000 - a * 10 - b, () -> x.saving(other, one));
            }
        }
    }

    private static void savingOfTwo() {
        BatchSavings x = ten(100);
        save(x, 0, 9, 7);
        due("first and last", 7, () -> x.saving(0, 9));
        due("last and first", 7, () -> x.saving(9, 0));
        due("the neighbour", 0, () -> x.saving(8, 9));
        x.open(0);
        due("in a batch", 7, () -> x.saving(0, 9));
    }

    private static void ruleOnAndOff() {
        BatchSavings x = ten(100);
        due("on", false, () -> x.rule(0, 9, true));
        due("on again", false, () -> x.rule(9, 0, true));
        due("others are not", true, () -> x.rule(0, 8, false));
        due("off", true, () -> x.rule(9, 0, false));
        due("off again", true, () -> x.rule(0, 9, false));
    }

    private static void ruleAnswers() {
        BatchSavings x = inZones(0, 0, 1);
        x.weight(0, 500);
        x.weight(1, 500);
        due("at the limit of weight", true, () -> x.rule(0, 1, false));
        x.weight(1, 501);
        due("above it", false, () -> x.rule(0, 1, false));
        x.limit(1001, 2);
        due("at both limits", true, () -> x.rule(0, 1, false));
        x.limit(1001, 1);
        due("above the limit of size", false, () -> x.rule(0, 1, false));
        x.limit(1001, 2);
        due("not near", false, () -> x.rule(0, 2, false));
        x.near(0, 1, true);
        due("near", true, () -> x.rule(0, 2, false));
        x.open(0);
        x.open(1);
        due("batches and savings do not count", true, () -> x.rule(0, 1, false));
        save(x, 0, 1, -1);
        due("nor a saving below 0", true, () -> x.rule(0, 1, false));
    }

    private static void weightTrue() {
        BatchSavings x = orders(100, 100);
        x.open(1);
        x.leave(1);
        x.limit(7, 100);
        due("at the limit", true, () -> x.weight(0, 7));
        x.join(0, 0);
        due("it is so", 7, () -> x.told(0, 0, 4));
        x.leave(0);
        due("less", true, () -> x.weight(0, 6));
        x.join(0, 0);
        due("it is less", 6, () -> x.told(0, 0, 4));
    }

    private static void weightFalse() {
        BatchSavings x = orders(100);
        x.open(0);
        x.leave(0);
        x.weight(0, 5);
        x.limit(7, 100);
        due("1 above", false, () -> x.weight(0, 8));
        due("far above", false, () -> x.weight(0, 1000));
        due("outside the range", ARGUMENT, () -> x.weight(0, 1001));
        x.join(0, 0);
        due("it stays as it is", 5, () -> x.told(0, 0, 4));
        x.leave(0);
        x.limit(4, 100);
        due("above already, less but above", false, () -> x.weight(0, 5));
        due("above already, down to the limit", true, () -> x.weight(0, 4));
    }

    private static void nearOnAndOff() {
        BatchSavings x = inZones(0, 3, 1);
        x.near(0, 3, true);
        due("on", true, () -> x.rule(0, 1, false));
        x.near(3, 0, true);
        due("on again", true, () -> x.rule(0, 1, false));
        x.near(3, 1, true);
        due("not by way of another", false, () -> x.rule(0, 2, false));
        x.near(3, 0, false);
        due("off, the other way round", false, () -> x.rule(0, 1, false));
        due("the other one is on", true, () -> x.rule(1, 2, false));
        x.near(0, 3, false);
        due("off again", false, () -> x.rule(0, 1, false));
    }

    private static void limitOfWeight() {
        BatchSavings x = orders(100, 100, 100, 100);
        for (int order = 0; order < 4; order++) {
            x.weight(order, 1000);
        }
        due("-1", ARGUMENT, () -> x.limit(-1, 100));
        due("4001", ARGUMENT, () -> x.limit(4001, 100));
        due("4000", 0, () -> x.limit(4000, 100));
        x.open(0);
        x.join(1, 0);
        x.join(2, 0);
        due("four at 4000", 400, () -> x.join(3, 0));
        x.leave(3);
        due("3999", 0, () -> x.limit(3999, 100));
        due("four above 3999", STATE, () -> x.join(3, 0));
        due("0", 4, () -> x.limit(0, 100));
        due("above 0", false, () -> x.weight(3, 1));
        due("at 0", true, () -> x.weight(3, 0));
        BatchSavings y = orders(100, 100);
        due("none weighs more than 0", 0, () -> y.limit(0, 100));
        due("two at 0", true, () -> y.rule(0, 1, false));
    }

    private static void limitOfSize() {
        BatchSavings x = new BatchSavings();
        for (int order = 0; order < 4; order++) {
            x.order(100, 100, 0);
        }
        due("0", ARGUMENT, () -> x.limit(1000, 0));
        due("401", ARGUMENT, () -> x.limit(1000, 401));
        due("400", 0, () -> x.limit(1000, 400));
        x.open(0);
        x.join(1, 0);
        x.join(2, 0);
        due("four at 400", 400, () -> x.join(3, 0));
        x.leave(3);
        due("399", 0, () -> x.limit(1000, 399));
        due("four above 399", STATE, () -> x.join(3, 0));
        due("1", 4, () -> x.limit(1000, 1));
        x.order(100, 1, 0);
        due("one of size 1", 4, () -> x.limit(1000, 1));
    }

    private static void limitAnswers() {
        BatchSavings x = new BatchSavings();
        for (int order = 0; order < 10; order++) {
            x.order(100, order + 1, 0);
            x.weight(order, 100 - order);
        }
        due("none", 0, () -> x.limit(100, 10));
        due("one by size", 1, () -> x.limit(100, 9));
        due("one by weight", 1, () -> x.limit(99, 10));
        due("one by each", 2, () -> x.limit(99, 9));
        due("nine by size", 9, () -> x.limit(100, 1));
        due("nine by weight", 9, () -> x.limit(91, 10));
        due("all by weight", 10, () -> x.limit(90, 10));
        due("each once", 10, () -> x.limit(0, 1));
        x.open(9);
        due("in a batch too", 10, () -> x.limit(0, 1));
        due("alone, not in their batches", 0, () -> x.limit(100, 10));
    }

    private static void limitOfNone() {
        BatchSavings x = new BatchSavings();
        due("least", 0, () -> x.limit(0, 1));
        due("most", 0, () -> x.limit(4000, 400));
        due("they hold for later orders", 0, () -> x.order(100, 100, 0));
        due("another", 1, () -> x.order(100, 100, 0));
        due("may be together", true, () -> x.rule(0, 1, false));
    }

    // 9 .. 14

    private static void matchMost() {
        for (int free = 0; free <= 10; free++) {
            BatchSavings x = new BatchSavings();
            for (int order = 0; order < free; order++) {
                x.order(100, 1, 0);
            }
            for (int most = 0; most <= 10; most++) {
                int asked = most;
                due(free + " free, most " + most, 0, () -> x.match(asked));
                due(free + " free, most " + most + ", exact", free <= most, () -> x.exact());
            }
        }
        BatchSavings y = orders(100, 100, 100, 100);
        save(y, 1, 2, 99);
        save(y, 0, 1, 50);
        save(y, 2, 3, 50);
        due("four, most 4", 100, () -> y.match(4));
        due("four, most 3", 99, () -> y.match(3));
        y.order(100, 1, 0);
        due("five, most 4", 99, () -> y.match(4));
        y.open(4);
        due("five, four of them free, most 4", 100, () -> y.match(4));
    }

    private static void matchOfNone() {
        for (int most : new int[] {0, 10}) {
            BatchSavings x = new BatchSavings();
            due("no orders", 0, () -> x.match(most));
            due("no orders, exact", true, () -> x.exact());
            x.order(100, 1, 0);
            x.order(100, 1, 0);
            save(x, 0, 1, 10);
            x.open(0);
            x.open(1);
            due("none free", 0, () -> x.match(most));
            due("none free, exact", true, () -> x.exact());
            counts(x, 2, 2, 0, 0, 0);
        }
    }

    private static void matchAnew() {
        BatchSavings x = orders(100, 100, 100);
        save(x, 0, 1, 10);
        x.match(10);
        save(x, 1, 2, 11);
        due("another pair", 11, () -> x.match(10));
        partners(x, -1, 2, 1);
        x.limit(1000, 1);
        due("none", 0, () -> x.match(0));
        partners(x, -1, -1, -1);
        counts(x, 3, 0, 3, 0, 0);
    }

    private static void matchGreatestAnswer() {
        for (int most : new int[] {0, 10}) {
            BatchSavings x = ten(10000);
            for (int a = 0; a < 10; a++) {
                for (int b = a + 1; b < 10; b++) {
                    x.joined(a, b, 0);
                }
            }
            due("five pairs", 100000, () -> x.match(most));
            due("their seconds", 100000, () -> x.count(4));
            due("five", 5, () -> x.count(3));
        }
    }

    private static void exactBefore() {
        BatchSavings x = new BatchSavings();
        due("new", false, () -> x.exact());
        x.order(100, 1, 0);
        due("an order", false, () -> x.exact());
        due("refused", ARGUMENT, () -> x.match(11));
        due("after a refused one", false, () -> x.exact());
    }

    private static void exactLatest() {
        BatchSavings x = orders(100, 100);
        x.match(2);
        due("two, most 2", true, () -> x.exact());
        x.order(100, 1, 0);
        due("whatever comes after it", true, () -> x.exact());
        x.match(2);
        due("three, most 2", false, () -> x.exact());
        x.open(0);
        due("whatever is opened after it", false, () -> x.exact());
        x.match(2);
        due("two free, most 2", true, () -> x.exact());
    }

    private static void withNone() {
        BatchSavings x = orders(100, 100, 100);
        partners(x, -1, -1, -1);
        save(x, 0, 2, 1);
        partners(x, -1, -1, -1);
        x.match(10);
        partners(x, 2, -1, 0);
    }

    private static void withNotFree() {
        BatchSavings x = orders(100, 100, 100, 100);
        save(x, 0, 1, 10);
        save(x, 2, 3, 10);
        x.match(10);
        x.open(1);
        due("opened", -1, () -> x.with(1));
        due("opened with it", -1, () -> x.with(0));
        x.join(2, 0);
        due("joined", -1, () -> x.with(2));
        due("its partner", -1, () -> x.with(3));
    }

    private static void withPartnerLost() {
        BatchSavings x = orders(100, 100, 100);
        save(x, 1, 2, 10);
        x.match(10);
        x.open(0);
        x.join(1, 0);
        partners(x, -1, -1, -1);
        x.leave(1);
        partners(x, -1, -1, -1);
        due("opened alone", 1, () -> x.open(2));
        row("alone", x, 1, 2);
        x.leave(2);
        due("matched anew", 10, () -> x.match(10));
        partners(x, -1, 2, 1);
    }

    private static void withNewOrder() {
        BatchSavings x = orders(100, 100);
        save(x, 0, 1, 10);
        x.match(10);
        for (int order = 2; order < 10; order++) {
            int asked = order;
            due("not there yet", MISSING, () -> x.with(asked));
            x.order(100, 1, 0);
            due("it has none", -1, () -> x.with(asked));
        }
        due("the pair is as it was", 1, () -> x.with(0));
    }

    private static void openPair() {
        BatchSavings x = orders(100, 100, 100, 100);
        save(x, 0, 3, 10);
        save(x, 1, 2, 10);
        x.match(10);
        due("the higher one", 0, () -> x.open(3));
        row("the higher one first", x, 0, 3, 0);
        due("the lower one", 1, () -> x.open(1));
        row("the lower one first", x, 1, 1, 2);
        due("its partner is not free", STATE, () -> x.open(2));
        counts(x, 4, 2, 0, 0, 0);
    }

    private static void openAlone() {
        BatchSavings x = orders(100, 100);
        x.weight(0, 1000);
        x.limit(0, 1);
        due("above the limit", 0, () -> x.open(0));
        row("above the limit", x, 0, 0);
        due("another", 1, () -> x.open(1));
        row("another", x, 1, 1);
    }

    private static void openPartedByRules() {
        BatchSavings x = new BatchSavings();
        x.order(100, 60, 0);
        x.order(100, 40, 1);
        x.near(0, 1, true);
        save(x, 0, 1, 10);
        x.match(10);
        x.weight(0, 1000);
        x.weight(1, 1000);
        x.rule(0, 1, true);
        x.near(0, 1, false);
        x.limit(0, 1);
        save(x, 0, 1, -10);
        partners(x, 1, 0);
        due("the pair", 0, () -> x.open(1));
        row("the pair", x, 0, 1, 0);
        due("its way", 210, () -> x.told(0, 0, 1));
        x.leave(0);
        due("it may not come back", STATE, () -> x.join(0, 0));
        due("but be a batch alone", 1, () -> x.open(0));
    }

    private static void openTenEmpty() {
        BatchSavings x = orders(100, 100);
        save(x, 0, 1, 10);
        for (int batch = 0; batch < 10; batch++) {
            int asked = batch;
            due("batch " + batch, asked, () -> x.open(0));
            due("empty " + batch, 0, () -> x.leave(0));
        }
        x.match(10);
        due("no room", ROOM, () -> x.open(0));
        due("no room for the other", ROOM, () -> x.open(1));
        partners(x, 1, 0);
        due("but to join", 100, () -> x.join(0, 9));
        due("not free", STATE, () -> x.open(0));
    }

    private static void joinWay() {
        BatchSavings x = orders(10000, 10000, 10000, 10000);
        x.joined(0, 1, 0);
        x.joined(1, 2, 0);
        x.joined(2, 3, 0);
        x.open(0);
        due("two", 0, () -> x.join(1, 0));
        due("three, and below 0", -10000, () -> x.join(2, 0));
        due("four", -20000, () -> x.join(3, 0));
        row("the row", x, 0, 0, 1, 2, 3);
        due("the way", -20000, () -> x.told(0, 0, 1));
        due("the saved seconds", 60000, () -> x.told(0, 0, 2));
    }

    private static void joinEmpty() {
        BatchSavings x = orders(100, 200);
        save(x, 0, 1, -50);
        x.open(0);
        due("below 0 with the last one", STATE, () -> x.join(1, 0));
        x.leave(0);
        due("none is the last one", 200, () -> x.join(1, 0));
        row("alone", x, 0, 1);
        x.leave(1);
        x.weight(1, 5);
        x.limit(4, 100);
        due("above the limit alone", STATE, () -> x.join(1, 0));
        x.limit(5, 100);
        due("at the limit alone", 200, () -> x.join(1, 0));
    }

    private static void joinSet() {
        BatchSavings x = orders(100, 100, 100, 100);
        x.open(0);
        x.join(1, 0);
        x.rule(0, 1, true);
        due("those who are there are barred", STATE, () -> x.join(2, 0));
        x.rule(0, 1, false);
        x.limit(1000, 2);
        due("they are at the limit", STATE, () -> x.join(2, 0));
        x.limit(1000, 3);
        due("three are at the limit", 300, () -> x.join(2, 0));
    }

    private static void joinLastAlone() {
        BatchSavings x = orders(100, 100, 100, 100);
        x.open(0);
        x.join(1, 0);
        save(x, 0, 2, -100);
        save(x, 1, 2, -1);
        due("-1", STATE, () -> x.join(2, 0));
        save(x, 1, 2, 0);
        due("0", 300, () -> x.join(2, 0));
        save(x, 0, 3, 50);
        save(x, 1, 3, 50);
        save(x, 2, 3, -1);
        due("-1 with the last one alone", STATE, () -> x.join(3, 0));
        x.leave(2);
        due("another is the last one", 250, () -> x.join(3, 0));
    }

    private static void joinFour() {
        BatchSavings x = ten(100);
        x.open(0);
        due("two", 200, () -> x.join(1, 0));
        due("three", 300, () -> x.join(2, 0));
        due("four", 400, () -> x.join(3, 0));
        due("five", ROOM, () -> x.join(4, 0));
        due("it is free", -1, () -> x.batch(4));
        x.leave(0);
        due("four again", 400, () -> x.join(4, 0));
        row("the row", x, 0, 1, 2, 3, 4);
        due("five again", ROOM, () -> x.join(0, 0));
    }

    private static void leaveStays() {
        BatchSavings x = orders(100, 100);
        x.open(0);
        due("none left", 0, () -> x.leave(0));
        due("it stays", 1, () -> x.count(1));
        row("it has none", x, 0);
        due("the next batch has the next number", 1, () -> x.open(0));
        due("the empty one takes another", 100, () -> x.join(1, 0));
        row("it has one", x, 0, 1);
    }

    private static void leaveFree() {
        BatchSavings x = orders(100, 100);
        x.open(0);
        due("not free", 0, () -> x.batch(0));
        x.leave(0);
        due("free", -1, () -> x.batch(0));
        due("free already", STATE, () -> x.leave(0));
        due("never in one", STATE, () -> x.leave(1));
        due("to another batch", 1, () -> x.open(0));
        due("in it", 1, () -> x.batch(0));
    }

    private static void leaveAnswers() {
        BatchSavings x = ten(100);
        x.open(0);
        for (int order = 1; order < 4; order++) {
            x.join(order, 0);
        }
        due("the second of four", 3, () -> x.leave(1));
        row("three", x, 0, 0, 2, 3);
        due("the last of three", 2, () -> x.leave(3));
        row("two", x, 0, 0, 2);
        due("the first of two", 1, () -> x.leave(0));
        row("one", x, 0, 2);
        due("the last one", 0, () -> x.leave(2));
        row("none", x, 0);
    }

    // 15 .. 20

    private static void batchOfFree() {
        BatchSavings x = ten(100);
        for (int order = 0; order < 10; order++) {
            int asked = order;
            due("free " + order, -1, () -> x.batch(asked));
        }
        for (int order = 9; order >= 0; order--) {
            x.open(order);
        }
        for (int order = 0; order < 10; order++) {
            int asked = order;
            due("in a batch " + order, 9 - order, () -> x.batch(asked));
        }
        x.leave(9);
        due("free again, from batch 0", -1, () -> x.batch(9));
        due("order 10", MISSING, () -> x.batch(10));
        due("order -1", MISSING, () -> x.batch(-1));
    }

    private static void toldOrders() {
        BatchSavings x = ten(100);
        for (int order = 0; order < 10; order++) {
            x.open(9 - order);
            row("batch " + order, x, order, 9 - order);
        }
        for (int order = 0; order < 3; order++) {
            x.leave(order);
            x.join(order, 0);
        }
        row("four in the first one", x, 0, 9, 0, 1, 2);
        row("the next one is as it was", x, 1, 8);
    }

    private static void toldWhateverI() {
        BatchSavings x = orders(100, 100);
        save(x, 0, 1, 30);
        x.weight(0, 7);
        x.open(0);
        x.join(1, 0);
        for (int i : new int[] {LOWEST, -1, 0, 1, 2, 3, 4, 10, HIGHEST}) {
            due("way, i " + i, 170, () -> x.told(0, i, 1));
            due("saved, i " + i, 30, () -> x.told(0, i, 2));
            due("size, i " + i, 2, () -> x.told(0, i, 3));
            due("weight, i " + i, 7, () -> x.told(0, i, 4));
            due("order, i " + i, i == 0 || i == 1 ? Integer.valueOf(i) : ARGUMENT, () -> x.told(0, i, 0));
        }
    }

    private static void toldEmpty() {
        BatchSavings x = orders(100);
        x.weight(0, 7);
        x.open(0);
        x.leave(0);
        due("no first", ARGUMENT, () -> x.told(0, 0, 0));
        for (int what = 1; what <= 4; what++) {
            int asked = what;
            due("what " + what, 0, () -> x.told(0, 0, asked));
        }
        due("what 5", ARGUMENT, () -> x.told(0, 0, 5));
        due("what -1", ARGUMENT, () -> x.told(0, 0, -1));
    }

    private static void toldMost() {
        BatchSavings x = new BatchSavings();
        x.limit(4000, 400);
        for (int order = 0; order < 4; order++) {
            x.order(10000, 100, 0);
            x.weight(order, 1000);
        }
        x.open(0);
        for (int order = 1; order < 4; order++) {
            x.join(order, 0);
        }
        due("way", 40000, () -> x.told(0, 0, 1));
        due("saved", 0, () -> x.told(0, 0, 2));
        due("size", 400, () -> x.told(0, 0, 3));
        due("weight", 4000, () -> x.told(0, 0, 4));
        for (int order = 0; order < 3; order++) {
            x.joined(order, order + 1, 20000);
        }
        due("joined seconds as long as both", 0, () -> x.told(0, 0, 2));
        BatchSavings y = orders(1, 1, 1, 1);
        y.open(0);
        for (int order = 1; order < 4; order++) {
            y.join(order, 0);
            y.joined(order - 1, order, 20000);
        }
        due("the longest way", 4 + 3 * 19998, () -> y.told(0, 0, 1));
        due("the least saved", -3 * 19998, () -> y.told(0, 0, 2));
    }

    private static void bestOfNone() {
        BatchSavings x = orders(100, 100);
        due("no batches", -1, () -> x.best(0));
        x.open(1);
        due("one", 0, () -> x.best(0));
    }

    private static void bestMayTake() {
        BatchSavings x = ten(100);
        x.open(0);
        x.open(1);
        save(x, 0, 9, 10);
        due("batch 0", 0, () -> x.best(9));
        x.rule(0, 9, true);
        due("barred", 1, () -> x.best(9));
        x.rule(0, 9, false);
        x.join(2, 0);
        x.join(3, 0);
        save(x, 3, 9, 10);
        due("three", 0, () -> x.best(9));
        x.join(4, 0);
        save(x, 4, 9, 10);
        due("four", 1, () -> x.best(9));
        x.leave(3);
        due("three again", 0, () -> x.best(9));
        x.limit(1000, 3);
        due("sizes above", 1, () -> x.best(9));
        x.limit(1000, 4);
        due("sizes at the limit", 0, () -> x.best(9));
        x.weight(9, 1000);
        due("weights at the limit", 0, () -> x.best(9));
        x.limit(999, 4);
        due("weights above", -1, () -> x.best(9));
    }

    private static void bestGreatest() {
        BatchSavings x = ten(100);
        x.open(0);
        x.open(1);
        x.join(2, 0);
        save(x, 0, 9, 90);
        save(x, 2, 9, 10);
        save(x, 1, 9, 11);
        due("with the last one alone", 1, () -> x.best(9));
        save(x, 2, 9, 12);
        due("1 more", 0, () -> x.best(9));
        x.joined(1, 9, 0);
        due("the greatest there is", 1, () -> x.best(9));
    }

    private static void bestEmpty() {
        BatchSavings x = orders(100, 100, 100);
        x.open(0);
        x.open(1);
        x.leave(0);
        save(x, 1, 2, 1);
        due("1 before an empty one", 1, () -> x.best(2));
        save(x, 1, 2, 0);
        due("0 is equal to an empty one", 0, () -> x.best(2));
        save(x, 1, 2, -1);
        due("below 0 may not", 0, () -> x.best(2));
        x.leave(1);
        due("empty ones alone", 0, () -> x.best(2));
    }

    private static void bestLowest() {
        BatchSavings x = ten(100);
        for (int order = 0; order < 9; order++) {
            x.open(order);
        }
        due("all 0", 0, () -> x.best(9));
        for (int order = 8; order >= 0; order--) {
            save(x, order, 9, 5);
            int lowest = order;
            due("5 from " + order + " on", lowest, () -> x.best(9));
        }
        save(x, 8, 9, 6);
        due("the last is greater", 8, () -> x.best(9));
        x.leave(8);
        due("the last is empty", 0, () -> x.best(9));
    }

    private static void bestNoneMay() {
        BatchSavings x = orders(100, 100, 100);
        x.open(0);
        x.open(1);
        save(x, 0, 2, -1);
        x.rule(1, 2, true);
        due("below 0, barred", -1, () -> x.best(2));
        save(x, 0, 2, 0);
        due("0 may", 0, () -> x.best(2));
        x.leave(0);
        x.limit(1000, 1);
        due("an empty one, at the limit", 0, () -> x.best(2));
        x.weight(2, 2);
        x.limit(1, 1);
        due("an empty one, above the limit", -1, () -> x.best(2));
    }

    private static void shareRests() {
        BatchSavings x = new BatchSavings();
        due("1 of 3", 33, () -> x.share(1, 3));
        due("2 of 3", 66, () -> x.share(2, 3));
        due("3 of 3", 100, () -> x.share(3, 3));
        due("99 of 10000", 0, () -> x.share(99, 10000));
        due("100 of 10000", 1, () -> x.share(100, 10000));
        due("0 of 1", 0, () -> x.share(0, 1));
        due("7 of 2", 350, () -> x.share(7, 2));
    }

    private static void shareGreatest() {
        BatchSavings x = new BatchSavings();
        due("the most of 1", 100000000, () -> x.share(1000000, 1));
        due("the most of the highest", 0, () -> x.share(1000000, HIGHEST));
        due("the most of a hundred times as much", 1, () -> x.share(1000000, 100000000));
        due("the most of 1 more", 0, () -> x.share(1000000, 100000001));
        due("the most of the most", 100, () -> x.share(1000000, 1000000));
        due("above the most", ARGUMENT, () -> x.share(1000001, HIGHEST));
        due("highest", ARGUMENT, () -> x.share(HIGHEST, HIGHEST));
        due("part below 0", ARGUMENT, () -> x.share(-1, 1));
        due("all below 0", ARGUMENT, () -> x.share(1, -1));
        due("all lowest", ARGUMENT, () -> x.share(1, LOWEST));
    }

    private static void shareOfNothing() {
        BatchSavings x = new BatchSavings();
        due("0 of 0", ARITHMETIC, () -> x.share(0, 0));
        due("5 of 0", ARITHMETIC, () -> x.share(5, 0));
        due("-1 of 0", ARGUMENT, () -> x.share(-1, 0));
        due("1000001 of 0", ARGUMENT, () -> x.share(1000001, 0));
    }

    private static void meanOfAll() {
        BatchSavings x = orders(100, 100, 100, 100);
        due("nothing saved", 0, () -> x.mean());
        save(x, 0, 1, 40);
        save(x, 2, 3, 20);
        due("no pairs, no batches", 0, () -> x.mean());
        x.match(10);
        due("two pairs", 15, () -> x.mean());
        x.open(0);
        due("a batch and a pair", 15, () -> x.mean());
        x.open(2);
        due("two batches", 15, () -> x.mean());
        x.leave(3);
        due("a batch of two, one of one", 10, () -> x.mean());
        x.leave(0);
        due("batches of one", 0, () -> x.mean());
    }

    private static void meanRests() {
        BatchSavings x = orders(100, 100, 100);
        save(x, 0, 1, 8);
        x.match(10);
        due("8 by 3", 2, () -> x.mean());
        save(x, 0, 1, 9);
        due("9 by 3", 3, () -> x.mean());
        x.order(100, 1, 0);
        due("9 by 4", 2, () -> x.mean());
        x.open(0);
        save(x, 0, 1, -7);
        due("-7 by 4", -1, () -> x.mean());
        save(x, 0, 1, -3);
        due("-3 by 4", 0, () -> x.mean());
        save(x, 0, 1, -8);
        due("-8 by 4", -2, () -> x.mean());
    }

    private static void meanOfNone() {
        BatchSavings x = new BatchSavings();
        due("new", ARITHMETIC, () -> x.mean());
        x.match(10);
        due("matched", ARITHMETIC, () -> x.mean());
        due("refused", ARGUMENT, () -> x.order(0, 1, 0));
        due("after a refused order", ARITHMETIC, () -> x.mean());
        x.order(1, 1, 0);
        due("one order", 0, () -> x.mean());
    }

    private static void meanGreatest() {
        BatchSavings x = ten(10000);
        for (int a = 0; a < 10; a++) {
            for (int b = a + 1; b < 10; b++) {
                x.joined(a, b, 0);
            }
        }
        x.match(10);
        due("five pairs", 10000, () -> x.mean());
        x.open(0);
        x.open(4);
        for (int order : new int[] {2, 3}) {
            x.join(order, 0);
        }
        for (int order : new int[] {6, 7}) {
            x.join(order, 1);
        }
        due("two of four and a pair", 14000, () -> x.mean());
        x.open(8);
        due("two of four and one of two", 14000, () -> x.mean());
        BatchSavings y = ten(1);
        y.open(0);
        for (int order = 1; order < 4; order++) {
            y.join(order, 0);
            y.joined(order - 1, order, 20000);
        }
        due("three at the least", -3 * 19998 / 10, () -> y.mean());
    }

    private static void countThings() {
        BatchSavings x = orders(100, 100);
        counts(x, 2, 0, 2, 0, 0);
        x.open(0);
        counts(x, 2, 1, 1, 0, 0);
        x.leave(0);
        counts(x, 2, 1, 2, 0, 0);
        for (int order = 2; order < 10; order++) {
            x.order(100, 1, 0);
        }
        counts(x, 10, 1, 10, 0, 0);
        due("an eleventh", ROOM, () -> x.order(100, 1, 0));
        for (int order = 0; order < 9; order++) {
            x.open(order);
        }
        counts(x, 10, 10, 1, 0, 0);
        due("an eleventh batch", ROOM, () -> x.open(9));
        counts(x, 10, 10, 1, 0, 0);
        x.join(9, 0);
        counts(x, 10, 10, 0, 0, 0);
    }

    private static void countPairs() {
        BatchSavings x = ten(100);
        due("before", 0, () -> x.count(3));
        saveAll(x, 10, 10);
        due("not matched yet", 0, () -> x.count(3));
        x.match(10);
        due("five", 5, () -> x.count(3));
        x.open(0);
        due("one is a batch", 4, () -> x.count(3));
        x.join(2, 0);
        due("one has joined", 3, () -> x.count(3));
        x.leave(2);
        due("it has left", 3, () -> x.count(3));
        x.limit(0, 1);
        due("limits come after it", 3, () -> x.count(3));
        save(x, 4, 5, 0);
        save(x, 6, 7, -1);
        due("so do savings", 3, () -> x.count(3));
        x.match(10);
        due("none", 0, () -> x.count(3));
    }

    private static void countSeconds() {
        BatchSavings x = orders(100, 100, 100, 100);
        save(x, 0, 1, 30);
        save(x, 2, 3, 20);
        due("before", 0, () -> x.count(4));
        x.match(10);
        due("two pairs", 50, () -> x.count(4));
        x.open(0);
        due("a batch is no pair", 20, () -> x.count(4));
        x.open(2);
        due("none", 0, () -> x.count(4));
    }

    private static void countSecondsTold() {
        BatchSavings x = orders(100, 100, 100, 100);
        save(x, 0, 1, 30);
        save(x, 2, 3, 20);
        x.match(10);
        save(x, 0, 1, 31);
        due("one more", 51, () -> x.count(4));
        save(x, 2, 3, 0);
        due("0 of one pair", 31, () -> x.count(4));
        save(x, 2, 3, -40);
        due("below 0 in all", -9, () -> x.count(4));
        due("both are pairs still", 2, () -> x.count(3));
        save(x, 0, 2, 90);
        due("orders that are no pair", -9, () -> x.count(4));
        due("and the mean by the same", -2, () -> x.mean());
    }

    private static void countAnother() {
        for (BatchSavings x : new BatchSavings[] {new BatchSavings(), ten(100)}) {
            for (int what : new int[] {LOWEST, -2, -1, 5, 6, HIGHEST}) {
                due("what " + what, -1, () -> x.count(what));
            }
        }
    }

    // What the tests are made of.

    /** Orders of size 1 in zone 0. */
    private static BatchSavings orders(int... seconds) {
        BatchSavings x = new BatchSavings();
        for (int each : seconds) {
            x.order(each, 1, 0);
        }
        return x;
    }

    private static BatchSavings ten(int seconds) {
        BatchSavings x = new BatchSavings();
        for (int order = 0; order < 10; order++) {
            x.order(seconds, 1, 0);
        }
        return x;
    }

    private static BatchSavings inZones(int... zones) {
        BatchSavings x = new BatchSavings();
        for (int zone : zones) {
            x.order(100, 1, zone);
        }
        return x;
    }

    private static void allNear(BatchSavings x) {
        for (int a = 0; a < 4; a++) {
            for (int b = a + 1; b < 4; b++) {
                x.near(a, b, true);
            }
        }
    }

    private static Object near(BatchSavings x, int zone, int other, boolean on) {
        x.near(zone, other, on);
        return "done";
    }

    /** Joined seconds of 0 save all that both have: so the ones that save what is asked for are known. */
    private static void save(BatchSavings x, int a, int b, int saving) {
        int both = x.joined(a, b, 0);
        x.joined(a, b, both - saving);
    }

    private static void saveAll(BatchSavings x, int orders, int saving) {
        for (int a = 0; a < orders; a++) {
            for (int b = a + 1; b < orders; b++) {
                save(x, a, b, saving);
            }
        }
    }

    private static void partners(BatchSavings x, int... want) {
        for (int order = 0; order < want.length; order++) {
            int asked = order;
            due("with " + order, want[order], () -> x.with(asked));
        }
    }

    private static void row(String what, BatchSavings x, int batch, int... want) {
        for (int i = 0; i < want.length; i++) {
            int asked = i;
            due(what + ": order " + i, want[i], () -> x.told(batch, asked, 0));
            due(what + ": batch of " + want[i], batch, () -> x.batch(want[asked]));
        }
        due(what + ": no more", ARGUMENT, () -> x.told(batch, want.length, 0));
        due(what + ": none before", ARGUMENT, () -> x.told(batch, -1, 0));
    }

    private static void counts(BatchSavings x, int... want) {
        for (int what = 0; what < want.length; what++) {
            int asked = what;
            due("count " + what, want[what], () -> x.count(asked));
        }
    }

    private static void test(String name, Runnable body) {
        test = name;
        tests++;
        try {
            body.run();
        } catch (RuntimeException e) {
            fail("threw " + e);
        }
    }

    /** The answer that is due, or the class of the exception. */
    private static void due(String what, Object want, Call call) {
        checks++;
        Object got;
        try {
            got = call.run();
        } catch (RuntimeException e) {
            got = "/ by zero".equals(e.getMessage()) ? "the machine's own" : e.getClass();
        }
        if (!want.equals(got)) {
            fail(what + " answered " + got + ", due is " + want);
        }
    }

    private static void fail(String text) {
        wrong++;
        System.out.println(test + ": " + text);
    }
}

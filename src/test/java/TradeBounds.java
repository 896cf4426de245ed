/** Promises 21 to 24: GOODS, PRICES, what may be bought and sold, GAIN. */
final class TradeBounds extends Bounds {
    private TradeBounds() {
    }

    /** Two ISLES, nine DAYS apart or fewer, and one of the GOODS, dearer on b. */
    private static TabooIsles market(String isles, int onA, int onB) {
        TabooIsles x = Check.isles(isles);
        due("good", 0, x.good());
        due("price on a", true, x.price(0, 0, onA));
        due("price on b", true, x.price(0, 1, onB));
        return x;
    }

    private static void route(TabooIsles x, int money, int hold, int... want) {
        for (int step = 0; step < want.length; step++) {
            due("step " + step, want[step], x.gain(0, money, hold, want.length / 3, step));
        }
    }

    // ---- 21

    static void promise21GoodOfThreeNotFour() {
        TabooIsles x = Check.isles(TWO);
        for (int good = 0; good < 3; good++) {
            due("good", good, x.good());
            due("how many", good + 1, x.count(6));
        }
        due("a fourth", -1, x.good());
        due("three as they were", 3, x.count(6));
        due("no fourth to price", false, x.price(3, 0, 5));
        due("no fourth to deal", -1, x.deal(3, 0, 1, 0));
    }

    static void promise21GoodNeedsIsles() {
        TabooIsles x = new TabooIsles();
        due("without isles", -1, x.good());
        due("none", 0, x.count(6));
        Check.tell(x, 0, TWO);
        due("with isles", 0, x.good());
        Check.tell(x, 0, TWO);
        due("none of those", 0, x.count(6));
        due("the first again", 0, x.good());
    }

    static void promise21GoodRefusedChangesNothing() {
        unchanged(Bounds::full, x -> due("a fourth", -1, x.good()));
        unchanged(TabooIsles::new, x -> due("without isles", -1, x.good()));
    }

    // ---- 22

    private static boolean price(int goods, int good, int isle, int v) {
        TabooIsles x = Check.isles(SIX);
        for (int k = 0; k < goods; k++) {
            x.good();
        }
        return x.price(good, isle, v);
    }

    static void promise22PriceOfGoodsThatAreThere() {
        bounds("of one, good", 0, 0, good -> price(1, good, 0, 5));
        bounds("of two, good", 0, 1, good -> price(2, good, 0, 5));
        bounds("of three, good", 0, 2, good -> price(3, good, 0, 5));
        for (int good = -1; good <= 3; good++) {
            due("of none, good " + good, false, price(0, good, 0, 5));
        }
    }

    static void promise22PriceOnIslesThatAreThere() {
        isles((x, isle) -> {
            x.good();
            return x.price(0, isle, 5);
        });
    }

    static void promise22PriceOf1To99() {
        bounds("price", 1, 99, v -> price(1, 0, 0, v));
        bounds("price of the last", 1, 99, v -> price(3, 2, 5, v));
    }

    static void promise22PriceIs10AtFirst() {
        TabooIsles x = Check.isles("0,0,0,0,0,0;ab1,bc1,cd1,de1,ef1,fa1");
        for (int good = 0; good < 3; good++) {
            x.good();
            // 60 may be had, but for 10 and 11 alone it is more than 60 ones
            x.hand(1);
            for (int isle = 0; isle < 6; isle++) {
                due("6 for 60", 1, x.deal(good, isle, 6, 0));
                due("11 for 66", true, x.price(good, isle, 11));
                due("6 for 66", 0, x.deal(good, isle, 6, 0));
                due("9 again", true, x.price(good, isle, 9));
            }
        }
        TabooIsles y = Check.isles(TWO);
        y.good();
        y.price(0, 1, 99);
        due("bought for 10", 89, y.gain(0, 10, 1, 1, -1));
        due("not for 9", 0, y.gain(0, 9, 1, 1, -1));
    }

    static void promise22PriceOfItsGoodAndIsleAlone() {
        TabooIsles x = Check.isles("0,0,0,0,0,0;ab1,bc1,cd1,de1,ef1,fa1");
        x.hand(1);
        for (int good = 0; good < 3; good++) {
            x.good();
        }
        for (int good = 0; good < 3; good++) {
            for (int isle = 0; isle < 6; isle++) {
                x.price(good, isle, 99);
                for (int k = 0; k < 18; k++) {
                    int of = x.deal(k / 6, k % 6, 1, 0);
                    due("one of " + k / 6 + " on " + k % 6, k <= good * 6 + isle ? 0 : 1, of);
                }
            }
        }
    }

    static void promise22PriceRefusedChangesNothing() {
        refused(x -> {
            due("good -1", false, x.price(-1, 0, 5));
            due("good 3", false, x.price(3, 0, 5));
            due("isle -1", false, x.price(0, -1, 5));
            due("isle 6", false, x.price(0, 6, 5));
            due("price 0", false, x.price(0, 0, 0));
            due("price 100", false, x.price(0, 0, 100));
            due("price least", false, x.price(0, 0, LEAST));
            due("price most", false, x.price(0, 0, MOST));
        });
    }

    // ---- 23

    static void promise23DealOfGoodsThatAreThere() {
        for (int goods = 0; goods <= 3; goods++) {
            TabooIsles x = Check.isles(TWO);
            for (int k = 0; k < goods; k++) {
                x.good();
            }
            for (int good : new int[] {LEAST, -1, 0, 1, 2, 3, 4, MOST}) {
                due("of " + goods + ", good " + good, good >= 0 && good < goods ? 1 : -1, x.deal(good, 0, 1, 0));
            }
        }
    }

    static void promise23DealOnIslesThatAreThere() {
        isles((x, isle) -> {
            x.good();
            return x.deal(0, isle, 1, 0) == 1;
        });
    }

    static void promise23DealOf1To6() {
        TabooIsles x = market(TWO, 10, 10);
        bounds("q", 1, 6, q -> x.deal(0, 0, q, 0) == 1);
        due("0", -1, x.deal(0, 0, 0, 0));
        due("7", -1, x.deal(0, 0, 7, 0));
    }

    static void promise23DealOnDays0To99() {
        TabooIsles x = market(TWO, 10, 10);
        bounds("day", 0, 99, day -> x.deal(0, 1, 1, day) == 1);
        due("-1", -1, x.deal(0, 1, 1, -1));
        due("100", -1, x.deal(0, 1, 1, 100));
    }

    static void promise23DealFor200NotMore() {
        int[] many = {4, 5, 3, 4, 2, 3, 6, 6, 1, 5, 2};
        int[] prices = {50, 40, 67, 51, 99, 66, 33, 34, 99, 41, 1};
        int[] want = {1, 1, 0, 0, 1, 1, 1, 0, 1, 0, 1};
        TabooIsles x = market(TWO, 1, 1);
        for (int k = 0; k < many.length; k++) {
            x.price(0, 1, prices[k]);
            due(many[k] + " for " + many[k] * prices[k], want[k], x.deal(0, 1, many[k], 0));
        }
    }

    static void promise23DealOfEachGoodForItself() {
        TabooIsles x = market("21,0;ab1", 7, 10);
        x.good();
        x.good();
        x.price(1, 0, 33);
        x.price(2, 0, 99);
        int[][] want = {{1, 1, 0, 1, 1, 1}, {1, 1, 1, 1, 1, 1}, {1, 1, 0, 0, 0, 0}};
        for (int good = 0; good < 3; good++) {
            for (int q = 1; q <= 6; q++) {
                due(q + " of good " + good, want[good][q - 1], x.deal(good, 0, q, 0));
            }
        }
    }

    static void promise23DealNeitherManyNorSumForbidden() {
        TabooIsles x = market("3,12,0;ab1", 4, 4);
        for (int q = 1; q <= 6; q++) {
            due(q + " where 3 is the taboo", q == 3 ? 0 : 1, x.deal(0, 0, q, 0));
            due(q + " where 12 is the taboo", q == 3 ? 0 : 1, x.deal(0, 1, q, 0));
        }
        x.price(0, 1, 12);
        due("1 for 12", 0, x.deal(0, 1, 1, 0));
        due("2 for 24", 1, x.deal(0, 1, 2, 0));
        Check.customs(x, 2, "y:n=200?1");
        x.price(0, 2, 50);
        due("4 for 200", 0, x.deal(0, 2, 4, 0));
        due("3 for 150", 1, x.deal(0, 2, 3, 0));
    }

    static void promise23DealOfTheDayItself() {
        TabooIsles x = market(TWO, 10, 10);
        x.change(1, 50, 10);
        x.change(1, 99, 1);
        x.today(70);
        due("the day ahead", 1, x.deal(0, 1, 1, 49));
        due("50", 0, x.deal(0, 1, 1, 50));
        due("two of it", 1, x.deal(0, 1, 2, 50));
        due("98", 0, x.deal(0, 1, 1, 98));
        due("one is taboo", 0, x.deal(0, 1, 1, 99));
        due("two", 1, x.deal(0, 1, 2, 99));
        due("on the other", 1, x.deal(0, 0, 1, 99));
    }

    static void promise23DealByACustomOfTheDay() {
        TabooIsles x = Check.customs(market(NO_TABOOS, 10, 10), 1, "y:d=50&n=20?1");
        for (int day : new int[] {0, 49, 50, 51, 99}) {
            due("2 for 20 on day " + day, day == 50 ? 0 : 1, x.deal(0, 1, 2, day));
            due("3 for 30 on day " + day, 1, x.deal(0, 1, 3, day));
        }
    }

    static void promise23DealOfSixtyPartsNotSixtyOne() {
        int[] hands = {1, 1, 1, 2, 2, 3, 3, 4};
        int[] many = {1, 1, 6, 2, 2, 2, 2, 4};
        int[] prices = {60, 61, 10, 60, 61, 90, 91, 50};
        int[] want = {1, 0, 1, 1, 0, 1, 0, 1};
        for (int k = 0; k < hands.length; k++) {
            TabooIsles x = market(TWO, 1, prices[k]);
            x.hand(hands[k]);
            due(many[k] + " for " + prices[k] + ", hand " + hands[k], want[k], x.deal(0, 1, many[k], 0));
        }
    }

    static void promise23DealByRules3InAnyNumberOfParts() {
        TabooIsles x = market("1,2,0;ab1", 18, 18);
        due("18: in two parts of 9, where 2 is taboo", 1, x.deal(0, 1, 1, 0));
        due("not by rule 4", 3, x.pay(1, 18, 4, -1));
        Check.customs(x, 2, "y:n=60?1");
        x.hand(2);
        x.price(0, 2, 59);
        // without the total 60 it is sixty parts, and that many are no matter
        due("118 in sixty parts", 1, x.deal(0, 2, 2, 0));
        due("by rules 7 it can't be", -1, x.pay(2, 118, 7, -1));
        x.price(0, 2, 60);
        due("120 in sixty-one parts", 0, x.deal(0, 2, 2, 0));
    }

    static void promise23DealWhereAllIsForbidden() {
        TabooIsles x = market(NO_TABOOS, 10, 10);
        Check.customs(x, 1, "y:1");
        Check.customs(x, 0, "y:n<7?1");
        for (int q = 1; q <= 6; q++) {
            due("all", 0, x.deal(0, 1, q, 0));
            due("1 to 6", 0, x.deal(0, 0, q, 0));
            due("nothing", 1, x.deal(0, 2, q, 0));
        }
    }

    static void promise23DealRefusedChangesNothing() {
        refused(x -> {
            due("good -1", -1, x.deal(-1, 0, 1, 0));
            due("good 3", -1, x.deal(3, 0, 1, 0));
            due("isle -1", -1, x.deal(0, -1, 1, 0));
            due("isle 6", -1, x.deal(0, 6, 1, 0));
            due("q 0", -1, x.deal(0, 0, 0, 0));
            due("q 7", -1, x.deal(0, 0, 7, 0));
            due("day -1", -1, x.deal(0, 0, 1, -1));
            due("day 100", -1, x.deal(0, 0, 1, 100));
        });
    }

    // ---- 24

    static void promise24GainOnIslesThatAreThere() {
        isles((x, isle) -> x.gain(isle, 0, 1, 0, -1) != HIDDEN);
    }

    static void promise24GainOfMoney0To999() {
        TabooIsles x = market(TWO, 10, 20);
        bounds("money", 0, 999, money -> x.gain(0, money, 1, 1, -1) == (money < 10 ? 0 : 10));
        due("-1", HIDDEN, x.gain(0, -1, 1, 1, -1));
        due("1000", HIDDEN, x.gain(0, 1000, 1, 1, -1));
    }

    static void promise24GainOfAHoldOf1To6() {
        TabooIsles x = market(TWO, 10, 20);
        bounds("hold", 1, 6, hold -> x.gain(0, 999, hold, 1, -1) == 10 * hold);
        due("0", HIDDEN, x.gain(0, 999, 0, 1, -1));
        due("7", HIDDEN, x.gain(0, 999, 7, 1, -1));
    }

    static void promise24GainOf0To3Legs() {
        TabooIsles x = market(TWO, 10, 20);
        int[] want = {0, 10, 10, 20};
        bounds("legs", 0, 3, legs -> x.gain(0, 10, 1, legs, -1) == want[legs < 0 || legs > 3 ? 0 : legs]);
        due("-1", HIDDEN, x.gain(0, 10, 1, -1, -1));
        due("4", HIDDEN, x.gain(0, 10, 1, 4, -1));
    }

    static void promise24GainStepsOfEachLeg() {
        TabooIsles x = market(TWO, 10, 20);
        bounds("of no legs, step", -1, -1, step -> x.gain(0, 10, 1, 0, step) != HIDDEN);
        bounds("of one leg, step", -1, 2, step -> x.gain(0, 10, 1, 1, step) != HIDDEN);
        bounds("of two legs, step", -1, 5, step -> x.gain(0, 10, 1, 2, step) != HIDDEN);
        bounds("of three legs, step", -1, 8, step -> x.gain(0, 10, 1, 3, step) != HIDDEN);
    }

    static void promise24GainNeedsTheMoneyForAll() {
        TabooIsles x = market(TWO, 10, 20);
        int[] money = {9, 10, 19, 20, 29, 30, 59, 60, 69, 70, 999};
        int[] want = {0, 10, 10, 20, 20, 30, 50, 60, 60, 60, 60};
        for (int k = 0; k < money.length; k++) {
            due("with " + money[k], want[k], x.gain(0, money[k], 6, 1, -1));
            due("how many", want[k] / 10, x.gain(0, money[k], 6, 1, 1));
        }
    }

    static void promise24GainOfSalesFor200NotMore() {
        TabooIsles x = market(TWO, 20, 40);
        due("5 for 200", 100, x.gain(0, 999, 6, 1, -1));
        route(x, 999, 6, 0, 5, 1);
        x.price(0, 1, 41);
        due("4 for 164", 84, x.gain(0, 999, 6, 1, -1));
        route(x, 999, 6, 0, 4, 1);
        x.price(0, 0, 1);
        x.price(0, 1, 67);
        due("2 for 134", 132, x.gain(0, 999, 6, 1, -1));
        x.price(0, 1, 66);
        due("3 for 198", 195, x.gain(0, 999, 6, 1, -1));
    }

    static void promise24GainOfNoLegsIsNothing() {
        TabooIsles x = Check.isles("0,0,0;ab1");
        for (int isle = 0; isle < 3; isle++) {
            due("without money", 0, x.gain(isle, 0, 1, 0, -1));
            due("with all", 0, x.gain(isle, 999, 6, 0, -1));
            due("no step", HIDDEN, x.gain(isle, 999, 6, 0, 0));
        }
    }

    static void promise24GainWhereItCantGo() {
        TabooIsles x = market("0,0,0;ab1", 10, 20);
        for (int legs = 1; legs <= 3; legs++) {
            due("legs " + legs, HIDDEN, x.gain(2, 999, 6, legs, -1));
            due("no step", HIDDEN, x.gain(2, 999, 6, legs, 0));
        }
        due("no legs", 0, x.gain(2, 999, 6, 0, -1));
        due("from a", 60, x.gain(0, 999, 6, 1, -1));
    }

    static void promise24GainWithoutGoods() {
        TabooIsles x = Check.isles("0,0,0;ab1,ac1,bc1");
        for (int legs = 0; legs <= 3; legs++) {
            due("legs " + legs, 0, x.gain(0, 999, 6, legs, -1));
        }
        // of several the lower numbers: a, b, a, b
        route(x, 999, 6, -1, 0, 1, -1, 0, 0, -1, 0, 1);
    }

    static void promise24GainOfTheThirdGood() {
        TabooIsles x = market(TWO, 10, 10);
        x.good();
        x.good();
        x.price(2, 1, 11);
        due("one more for each", 6, x.gain(0, 999, 6, 1, -1));
        route(x, 999, 6, 2, 6, 1);
        x.price(1, 1, 11);
        due("as much", 6, x.gain(0, 999, 6, 1, -1));
        route(x, 999, 6, 1, 6, 1);
    }

    static void promise24GainOfThreeLegsOfNineDays() {
        TabooIsles x = market("0,0;ab9", 10, 20);
        due("a, b, a, b", 20, x.gain(0, 10, 1, 3, -1));
        route(x, 10, 1, 0, 1, 1, -1, 0, 0, 0, 1, 1);
        x.change(1, 27, 20);
        due("20 is taboo on day 27", 10, x.gain(0, 10, 1, 3, -1));
        x.change(1, 28, 0);
        due("so it is", 10, x.gain(0, 10, 1, 3, -1));
        x.today(1);
        due("day 28 by a day more", 20, x.gain(0, 10, 1, 3, -1));
        x.change(1, 10, 20);
        x.change(1, 11, 0);
        x.change(1, 27, 0);
        due("10 is the other day on b", 10, x.gain(0, 10, 1, 3, -1));
    }

    static void promise24GainOfDaysAbove99AskedAs99() {
        TabooIsles x = market("0,0;ab9", 10, 20);
        x.change(1, 99, 20);
        int[] today = {0, 71, 72, 73, 80, 81, 89, 90, 91, 98, 99};
        int[] want = {20, 20, 10, 10, 10, 10, 10, 0, 0, 0, 0};
        for (int k = 0; k < today.length; k++) {
            x.today(today[k]);
            due("from day " + today[k], want[k], x.gain(0, 10, 1, 3, -1));
        }
        x = market("0,0;ab9", 10, 20);
        x.change(1, 98, 20);
        x.change(1, 99, 0);
        x.today(99);
        due("99 is lawful", 20, x.gain(0, 10, 1, 3, -1));
        x.today(89);
        due("98 is not", 10, x.gain(0, 10, 1, 3, -1));
    }

    static void promise24GainOfWhatCantBeSold() {
        TabooIsles x = market("0,2,0;ab1,bc1", 10, 20);
        x.price(0, 2, 30);
        due("one may be sold on b", 20, x.gain(0, 10, 1, 2, -1));
        due("two stay in the hold on b", 40, x.gain(0, 20, 2, 2, -1));
        route(x, 20, 2, 0, 2, 1, -1, 0, 2);
        due("one alone at the end", 10, x.gain(0, 20, 2, 1, -1));
        Check.customs(x, 2, "y:1");
        due("what stays at the end is worth nothing", 10, x.gain(0, 20, 2, 2, -1));
        Check.customs(x, 1, "y:1");
        due("nothing can be sold", 0, x.gain(0, 999, 6, 3, -1));
        route(x, 999, 6, -1, 0, 1, -1, 0, 0, -1, 0, 1);
    }

    static void promise24GainOfOneThatCantBeSoldAndNothingIsBoughtThen() {
        TabooIsles x = market("0,20,0;ab1,bc1", 10, 20);
        x.price(0, 2, 30);
        due("one stays in the hold on b", 20, x.gain(0, 10, 1, 2, -1));
        route(x, 10, 1, 0, 1, 1, -1, 0, 2);
        x.good();
        x.price(1, 1, 5);
        x.price(1, 2, 20);
        due("nothing is bought beside it", 20, x.gain(0, 20, 1, 2, -1));
        route(x, 20, 1, 0, 1, 1, -1, 0, 2);
        x.price(1, 2, 50);
        due("better to come with nothing", 45, x.gain(0, 20, 1, 2, -1));
        route(x, 20, 1, -1, 0, 1, 1, 1, 2);
    }

    static void promise24GainOfWhatStaysOverTwoQuays() {
        // 20 can't be said on b and c; on d 30 can from day 9 on, that of three legs
        TabooIsles x = market("0,20,20,30;ab2,bc3,cd4", 99, 99);
        x.price(0, 2, 99);
        x.price(0, 3, 99);
        x.good();
        x.price(1, 1, 20);
        x.price(1, 2, 20);
        x.price(1, 3, 30);
        due("nor on d yet", 0, x.gain(0, 10, 1, 3, -1));
        x.change(3, 9, 0);
        due("sold on d", 20, x.gain(0, 10, 1, 3, -1));
        route(x, 10, 1, 1, 1, 1, -1, 0, 2, -1, 0, 3);
        x.change(3, 9, 30);
        x.change(3, 10, 0);
        due("not on day 9", 0, x.gain(0, 10, 1, 3, -1));
        x.today(1);
        due("on day 10", 20, x.gain(0, 10, 1, 3, -1));
    }

    static void promise24GainOfASecondGoodThatCantBeSold() {
        TabooIsles x = market("0,30,0;ab1,bc1", 10, 10);
        x.good();
        x.price(1, 1, 30);
        x.price(1, 2, 60);
        due("over b, where 30 is the taboo", 50, x.gain(0, 10, 1, 2, -1));
        route(x, 10, 1, 1, 1, 1, -1, 0, 2);
    }

    static void promise24GainOfWhatMayNotBeBought() {
        TabooIsles x = market("10,0;ab1", 10, 20);
        due("not one for 10", 0, x.gain(0, 10, 1, 1, -1));
        route(x, 10, 1, -1, 0, 1);
        due("two for 20", 20, x.gain(0, 20, 2, 1, -1));
        route(x, 20, 2, 0, 2, 1);
        x = market("2,0;ab1", 10, 20);
        due("one for 10", 10, x.gain(0, 20, 2, 1, -1));
        due("three for 30", 30, x.gain(0, 30, 3, 1, -1));
        x = market("1,0;ab1", 10, 20);
        due("not one", 0, x.gain(0, 10, 6, 1, -1));
        due("two", 20, x.gain(0, 20, 6, 1, -1));
        x = Check.customs(market(NO_TABOOS, 10, 20), 0, "y:1");
        due("nothing", 0, x.gain(0, 999, 6, 1, -1));
        due("to a nothing can be sold", 0, x.gain(1, 999, 6, 1, -1));
    }

    static void promise24GainFromEachIsle() {
        int[] want = {50, 10, 10, 10, 10, 0};
        int[] to = {5, 2, 3, 4, 5, 0};
        for (int isle = 0; isle < 6; isle++) {
            TabooIsles x = market("0,0,0,0,0,0;ab1,bc1,cd1,de1,ef1,fa1", 10, 20);
            for (int dearer = 2; dearer < 6; dearer++) {
                x.price(0, dearer, 10 * (dearer + 1));
            }
            due("from " + isle, want[isle], x.gain(isle, 60, 1, 1, -1));
            due("the good from " + isle, isle == 5 ? -1 : 0, x.gain(isle, 60, 1, 1, 0));
            due("to, from " + isle, to[isle], x.gain(isle, 60, 1, 1, 2));
        }
    }

    static void promise24GainByACustomOfTheDay() {
        TabooIsles x = Check.customs(market("0,0,0;ab9", 10, 20), 1, "y:d=50&n=20?1");
        int[] today = {0, 40, 41, 42, 50};
        int[] want = {10, 10, 0, 10, 10};
        for (int k = 0; k < today.length; k++) {
            x.today(today[k]);
            due("from day " + today[k], want[k], x.gain(0, 10, 1, 1, -1));
        }
    }

    static void promise24GainBesideADearGood() {
        TabooIsles x = market(TWO, 1, 99);
        x.good();
        x.price(1, 0, 99);
        x.price(1, 1, 99);
        due("twice to b", 196, x.gain(0, 1, 1, 3, -1));
        route(x, 1, 1, 0, 1, 1, -1, 0, 0, 0, 1, 1);
    }

    static void promise24GainOfALittleAheadOfMuch() {
        TabooIsles x = market("0,0,0;ab1,bc1", 10, 11);
        x.good();
        x.good();
        int[][] prices = {{99, 1, 99}, {99, 99, 1}};
        for (int isle = 0; isle < 3; isle++) {
            x.price(1, isle, prices[0][isle]);
            x.price(2, isle, prices[1][isle]);
        }
        due("98 to c, 98 back to b", 196, x.gain(0, 9, 1, 3, -1));
        due("and 1 ahead of them", 197, x.gain(0, 10, 1, 3, -1));
        route(x, 10, 1, 0, 1, 1, 1, 1, 2, 2, 1, 1);
        due("two by two", 394, x.gain(0, 20, 2, 3, -1));
        route(x, 20, 2, 0, 2, 1, 1, 2, 2, 2, 2, 1);
    }

    static void promise24GainOfAQuayReachedByTwoLegsAndByThree() {
        // e on day 6 by b and c, and by d: by d one leg is left, to f
        TabooIsles x = market("0,0,0,0,0,0;ab2,bc2,ce2,ad5,de1,ef9", 10, 10);
        x.price(0, 5, 99);
        due("sold on f", 89, x.gain(0, 10, 1, 3, -1));
        route(x, 10, 1, -1, 0, 3, -1, 0, 4, 0, 1, 5);
        due("not by two legs", 0, x.gain(0, 10, 1, 2, -1));
    }

    static void promise24GainOfAQuayReachedByManyWaysOnOneDay() {
        // c on day 3 by b and by d, e on day 4 by b and by c
        TabooIsles x = market("0,0,0,0,0;ab1,bc2,ad2,cd1,ce1,be3", 10, 10);
        x.price(0, 4, 99);
        due("sold on e by two legs", 89, x.gain(0, 10, 1, 2, -1));
        route(x, 10, 1, -1, 0, 1, 0, 1, 4);
        due("sold on e by three legs", 89, x.gain(0, 10, 1, 3, -1));
    }

    static void promise24GainOfRowsOfSixtyParts() {
        TabooIsles x = market(TWO, 10, 60);
        x.hand(1);
        due("one for 60", 50, x.gain(0, 10, 1, 1, -1));
        x.price(0, 1, 61);
        due("not for 61", 0, x.gain(0, 10, 1, 1, -1));
        x.price(0, 1, 99);
        x.price(0, 0, 61);
        x.hand(2);
        due("one for 61 and 99", 38, x.gain(0, 999, 6, 1, -1));
        x.hand(1);
        due("can't be bought", 0, x.gain(0, 999, 6, 1, -1));
    }

    static void promise24GainOfTheMostMoney() {
        TabooIsles x = market("0,0;ab1", 1, 33);
        // six of it for 198, then six again
        due("one leg", 192, x.gain(0, 999, 6, 1, -1));
        due("three legs", 384, x.gain(0, 999, 6, 3, -1));
        due("one for 1 first", 32 + 192, x.gain(0, 1, 6, 3, -1));
        due("none for 0", 0, x.gain(0, 0, 6, 3, -1));
    }

    static void promise24GainRefusedChangesNothing() {
        refused(x -> {
            due("isle -1", HIDDEN, x.gain(-1, 5, 1, 1, -1));
            due("isle 6", HIDDEN, x.gain(6, 5, 1, 1, -1));
            due("money -1", HIDDEN, x.gain(0, -1, 1, 1, -1));
            due("money 1000", HIDDEN, x.gain(0, 1000, 1, 1, -1));
            due("hold 0", HIDDEN, x.gain(0, 5, 0, 1, -1));
            due("hold 7", HIDDEN, x.gain(0, 5, 7, 1, -1));
            due("legs -1", HIDDEN, x.gain(0, 5, 1, -1, -1));
            due("legs 4", HIDDEN, x.gain(0, 5, 1, 4, -1));
            due("step -2", HIDDEN, x.gain(0, 5, 1, 1, -2));
            due("step 3", HIDDEN, x.gain(0, 5, 1, 1, 3));
            due("most", HIDDEN, x.gain(0, 5, 1, 3, MOST));
        });
    }
}

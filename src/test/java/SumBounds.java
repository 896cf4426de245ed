/** Promises 11 to 15 and 35 to 37: SUMS, FAMILIES, and what goes with sums that can be PAID. */
final class SumBounds extends Bounds {
    private SumBounds() {
    }

    private static TabooIsles hand(TabooIsles x, int hand) {
        due("hand", true, x.hand(hand));
        return x;
    }

    // ---- 11

    static void promise11PayOnIslesThatAreThere() {
        isles((x, isle) -> x.pay(isle, 1, 0, -1) != -1);
    }

    static void promise11PaySumsOf1To200() {
        TabooIsles x = Check.isles(TWO);
        bounds("sum", 1, 200, sum -> x.pay(1, sum, 0, -1) != -1);
        bounds("first of sum", 1, 200, sum -> x.pay(1, sum, 7, 0) != -1);
    }

    static void promise11PayByRules0To7() {
        TabooIsles x = Check.isles(TWO);
        bounds("rules", 0, 7, rules -> x.pay(1, 20, rules, -1) != -1);
    }

    static void promise11PayPartsFromTheFirstToTheLast() {
        TabooIsles x = Check.isles(TWO);
        bounds("part", -1, 2, i -> x.pay(0, 20, 0, i) != -1);
        bounds("part of one", -1, 0, i -> x.pay(0, 9, 0, i) != -1);
        hand(x, 1);
        bounds("part of sixty", -1, 59, i -> x.pay(0, 60, 0, i) != -1);
        due("the last", 1, x.pay(0, 60, 0, 59));
    }

    static void promise11PaySixtyPartsNotSixtyOne() {
        int[] hands = {1, 2, 3};
        for (int hand : hands) {
            TabooIsles x = hand(Check.isles(TWO), hand);
            due("59 parts", 59, x.pay(0, 59 * hand, 0, -1));
            due("60 parts", 60, x.pay(0, 60 * hand, 0, -1));
            due("the 60th", hand, x.pay(0, 60 * hand, 0, 59));
            due("no 61 parts", -1, x.pay(0, 60 * hand + 1, 0, -1));
            due("no first of them", -1, x.pay(0, 60 * hand + 1, 0, 0));
        }
        due("200 by 4", 50, hand(Check.isles(TWO), 4).pay(0, 200, 0, -1));
    }

    static void promise11PaySixtyPartsWhereSixtyAreForbidden() {
        TabooIsles x = hand(withCustom("y:n=60?1"), 2);
        due("120 by 0", 60, x.pay(2, 120, 0, -1));
        due("120 by 4", -1, x.pay(2, 120, 4, -1));
        due("119 by 0", 60, x.pay(2, 119, 0, -1));
        due("119 by 4", -1, x.pay(2, 119, 4, -1));
        due("118 by 4", 59, x.pay(2, 118, 4, -1));
        // over the total 60 by 59 and 61: two 1s
        due("118 by 2", 60, x.pay(2, 118, 2, -1));
        due("119 by 2", 60, x.pay(2, 119, 2, -1));
        due("120 by 2", -1, x.pay(2, 120, 2, -1));
        due("118 by 6", -1, x.pay(2, 118, 6, -1));
    }

    static void promise11PayByRule1NoPartForbidden() {
        TabooIsles x = Check.isles("9,1,0;ab1");
        due("9 without 9", 2, x.pay(0, 9, 1, -1));
        due("8 first", 8, x.pay(0, 9, 1, 0));
        due("9 by 0", 1, x.pay(0, 9, 0, -1));
        due("9 by 4", 1, x.pay(0, 9, 4, -1));
        due("1 without 1", -1, x.pay(1, 1, 1, -1));
        due("10 without 1", 2, x.pay(1, 10, 1, -1));
        due("10: 8", 8, x.pay(1, 10, 1, 0));
        due("10: 2", 2, x.pay(1, 10, 1, 1));
        due("11 without 1", 2, x.pay(1, 11, 1, -1));
        hand(x, 1);
        due("nothing without 1", -1, x.pay(1, 60, 1, -1));
        due("ones on another", 60, x.pay(0, 60, 1, -1));
    }

    static void promise11PayByRule2NoTotalForbidden() {
        TabooIsles x = Check.isles("9,1,18;ab1");
        due("9 itself", -1, x.pay(0, 9, 2, -1));
        due("8", 1, x.pay(0, 8, 2, -1));
        due("10 over 9", 2, x.pay(0, 10, 2, -1));
        due("10: 8", 8, x.pay(0, 10, 2, 0));
        due("1 itself", -1, x.pay(1, 1, 2, -1));
        due("2 at once", 1, x.pay(1, 2, 2, -1));
        due("18 itself", -1, x.pay(2, 18, 2, -1));
        due("27 not by 18", 4, x.pay(2, 27, 2, -1));
        int[] row = {9, 8, 9, 1};
        for (int k = 0; k < 4; k++) {
            due("27, part " + k, row[k], x.pay(2, 27, 2, k));
        }
        due("17", 2, x.pay(2, 17, 2, -1));
        hand(x, 1);
        due("all behind 18 by ones", -1, x.pay(2, 19, 2, -1));
        due("17 by ones", 17, x.pay(2, 17, 2, -1));
    }

    static void promise11PayByRule2TheSum200Itself() {
        TabooIsles x = withCustom("y:n>199?1");
        due("199", 23, x.pay(2, 199, 2, -1));
        due("200", -1, x.pay(2, 200, 2, -1));
        due("200 by 1", 23, x.pay(2, 200, 1, -1));
        due("200 by 5", 23, x.pay(2, 200, 5, -1));
    }

    static void promise11PayByRule4NotThatManyParts() {
        TabooIsles x = Check.isles("1,2,0;ab1");
        due("1 in one", -1, x.pay(0, 1, 4, -1));
        due("2 in two", 2, x.pay(0, 2, 4, -1));
        due("9 in two", 2, x.pay(0, 9, 4, -1));
        due("9: 8", 8, x.pay(0, 9, 4, 0));
        due("9 in one", 1, x.pay(1, 9, 4, -1));
        due("10 in three", 3, x.pay(1, 10, 4, -1));
        due("10: 8", 8, x.pay(1, 10, 4, 0));
        due("10: 1", 1, x.pay(1, 10, 4, 2));
        due("the part 2 may be", 1, x.pay(1, 2, 4, -1));
        due("the total 1 may be", 2, x.pay(0, 2, 4, -1));
    }

    static void promise11PayByAllRules() {
        TabooIsles x = Check.isles("2,0;ab1");
        due("2 is the sum", -1, x.pay(0, 2, 7, -1));
        due("1", 1, x.pay(0, 1, 7, -1));
        due("10 in three", 3, x.pay(0, 10, 7, -1));
        int[] row = {8, 1, 1};
        for (int k = 0; k < 3; k++) {
            due("10, part " + k, row[k], x.pay(0, 10, 7, k));
        }
        due("no fourth", -1, x.pay(0, 10, 7, 3));
        TabooIsles all = withCustom("y:1");
        for (int rules = 1; rules <= 7; rules++) {
            due("all forbidden by " + rules, -1, all.pay(2, 9, rules, -1));
            due("no first", -1, all.pay(2, 9, rules, 0));
        }
        due("by 0", 1, all.pay(2, 9, 0, -1));
    }

    static void promise11PayRowsAddUpBehindGreaterSums() {
        TabooIsles x = Check.isles("5,0;ab1");
        for (int rules = 0; rules <= 1; rules++) {
            for (int sum = 30; sum >= 1; sum--) {
                int parts = x.pay(0, sum, rules, -1);
                int all = 0;
                for (int i = 0; i < parts; i++) {
                    all += x.pay(0, sum, rules, i);
                }
                due("parts of " + sum + " together, by " + rules, sum, all);
            }
        }
    }

    static void promise11PayTheGreaterPartFirst() {
        TabooIsles x = Check.isles("3,0;ab1");
        int[] row = {9, 9, 2};
        for (int k = 0; k < 3; k++) {
            due("20, part " + k, row[k], x.pay(0, 20, 1, k));
        }
        due("12 is no 9 and 3", 8, x.pay(0, 12, 1, 0));
        due("12: 8 and", 4, x.pay(0, 12, 1, 1));
        due("12 with 3", 9, x.pay(1, 12, 1, 0));
        due("12: 9 and", 3, x.pay(1, 12, 1, 1));
    }

    static void promise11PayRefusedChangesNothing() {
        refused(x -> {
            due("isle -1", -1, x.pay(-1, 5, 0, -1));
            due("isle 6", -1, x.pay(6, 5, 0, -1));
            due("sum 0", -1, x.pay(0, 0, 0, -1));
            due("sum 201", -1, x.pay(0, 201, 0, -1));
            due("rules -1", -1, x.pay(0, 5, -1, -1));
            due("rules 8", -1, x.pay(0, 5, 8, -1));
            due("part -2", -1, x.pay(0, 5, 0, -2));
            due("part 1", -1, x.pay(0, 5, 0, 1));
            due("least", -1, x.pay(0, LEAST, LEAST, LEAST));
        });
    }

    // ---- 12

    static void promise12WaysOnIslesThatAreThere() {
        isles((x, isle) -> x.ways(isle, 1, 0, 1) != -1);
    }

    static void promise12WaysOfSums1To200() {
        TabooIsles x = Check.isles(TWO);
        bounds("sum", 1, 200, sum -> x.ways(1, sum, 0, 8) != -1);
    }

    static void promise12WaysByRules0To7() {
        TabooIsles x = Check.isles(TWO);
        bounds("rules", 0, 7, rules -> x.ways(1, 20, rules, 3) != -1);
    }

    static void promise12WaysOfParts1To8() {
        TabooIsles x = Check.isles(TWO);
        bounds("parts", 1, 8, parts -> x.ways(1, 20, 0, parts) != -1);
    }

    static void promise12WaysFromTheLeastToTheGreatestSum() {
        for (int hand : new int[] {1, 9, 20}) {
            TabooIsles x = hand(Check.isles(TWO), hand);
            for (int parts = 1; parts <= 8; parts++) {
                due("too little", parts == 1 ? -1 : 0, x.ways(0, parts - 1, 0, parts));
                due("all 1", 1, x.ways(0, parts, 0, parts));
                due("one of 2", hand == 1 ? 0 : parts, x.ways(0, parts + 1, 0, parts));
                due("all as the hand", 1, x.ways(0, hand * parts, 0, parts));
                due("too much", 0, x.ways(0, hand * parts + 1, 0, parts));
            }
        }
        due("200", 0, hand(Check.isles(TWO), 20).ways(0, 200, 0, 8));
    }

    static void promise12WaysTheMostOfAll() {
        TabooIsles x = hand(Check.isles(TWO), 20);
        due("84 in eight", 614299660L, x.ways(0, 84, 0, 8));
        due("83 and 85 have as many", x.ways(0, 83, 0, 8), x.ways(0, 85, 0, 8));
        due("in two", 20, x.ways(0, 21, 0, 2));
        due("in two", 19, x.ways(0, 20, 0, 2));
        due("in two", 19, x.ways(0, 22, 0, 2));
    }

    static void promise12WaysByEachRule() {
        TabooIsles x = Check.isles("4,1,8;ab1");
        due("11 in two", 8, x.ways(0, 11, 0, 2));
        due("without 4 7 and 7 4", 6, x.ways(0, 11, 1, 2));
        due("without the total 4", 7, x.ways(0, 11, 2, 2));
        due("the sum 4 itself", 0, x.ways(0, 4, 2, 2));
        due("the sum 4", 3, x.ways(0, 4, 4, 2));
        due("in four", 0, x.ways(0, 11, 4, 4));
        due("in four by 3", true, x.ways(0, 11, 3, 4) > 0);
        due("in one", 0, x.ways(1, 5, 4, 1));
        due("in two", 4, x.ways(1, 5, 4, 2));
        due("in eight", 0, x.ways(2, 20, 4, 8));
        due("in seven", true, x.ways(2, 20, 4, 7) > 0);
        TabooIsles all = withCustom("y:1");
        for (int rules = 1; rules <= 7; rules++) {
            due("all forbidden by " + rules, 0, all.ways(2, 9, rules, 2));
        }
    }

    static void promise12WaysRefusedChangesNothing() {
        refused(x -> {
            due("isle -1", -1, x.ways(-1, 5, 0, 1));
            due("isle 6", -1, x.ways(6, 5, 0, 1));
            due("sum 0", -1, x.ways(0, 0, 0, 1));
            due("sum 201", -1, x.ways(0, 201, 0, 1));
            due("rules -1", -1, x.ways(0, 5, -1, 1));
            due("rules 8", -1, x.ways(0, 5, 8, 1));
            due("parts 0", -1, x.ways(0, 5, 0, 0));
            due("parts 9", -1, x.ways(0, 5, 0, 9));
            due("parts least", -1, x.ways(0, 5, 0, LEAST));
        });
    }

    // ---- 13

    static void promise13CantOnIslesThatAreThere() {
        isles((x, isle) -> x.cant(isle, 0, -1) != -1);
    }

    static void promise13CantByRules0To7() {
        TabooIsles x = Check.isles(TWO);
        bounds("rules", 0, 7, rules -> x.cant(1, rules, -1) != -1);
    }

    static void promise13CantNoSumAtAll() {
        TabooIsles x = Check.isles(TWO);
        for (int rules = 0; rules <= 7; rules++) {
            due("how many", 0, x.cant(0, rules, -1));
            due("the first", -1, x.cant(0, rules, 0));
        }
    }

    static void promise13CantAllSums() {
        TabooIsles x = withCustom("y:1");
        for (int rules = 1; rules <= 7; rules++) {
            due("how many", 200, x.cant(2, rules, -1));
            due("the first", 1, x.cant(2, rules, 0));
            due("the last", 200, x.cant(2, rules, 199));
            due("no more", -1, x.cant(2, rules, 200));
        }
        due("by 0", 0, x.cant(2, 0, -1));
        bounds("the i-th", -1, 199, i -> x.cant(2, 1, i) != -1);
    }

    static void promise13CantBehindSixtyParts() {
        int[] least = {61, 121, 181};
        for (int hand = 1; hand <= 3; hand++) {
            TabooIsles x = hand(Check.isles(TWO), hand);
            int many = 201 - least[hand - 1];
            due("how many", many, x.cant(0, 0, -1));
            due("the first", least[hand - 1], x.cant(0, 0, 0));
            due("the last", 200, x.cant(0, 0, many - 1));
            due("no more", -1, x.cant(0, 0, many));
        }
        due("by 4 none", 0, hand(Check.isles(TWO), 4).cant(0, 0, -1));
    }

    static void promise13CantTheSumsForbidden() {
        TabooIsles x = withCustom("y:n=1|n=200?1");
        due("by 2", 2, x.cant(2, 2, -1));
        due("1", 1, x.cant(2, 2, 0));
        due("200", 200, x.cant(2, 2, 1));
        due("no third", -1, x.cant(2, 2, 2));
        due("by 1: 1 alone", 1, x.cant(2, 1, -1));
        due("1", 1, x.cant(2, 1, 0));
        due("by 4: 1 alone", 1, x.cant(2, 4, -1));
    }

    static void promise13CantRefusedChangesNothing() {
        refused(x -> {
            due("isle -1", -1, x.cant(-1, 0, -1));
            due("isle 6", -1, x.cant(6, 0, -1));
            due("rules -1", -1, x.cant(0, -1, -1));
            due("rules 8", -1, x.cant(0, 8, -1));
            due("i -2", -1, x.cant(0, 7, -2));
            due("i 200", -1, x.cant(0, 7, 200));
            due("i least", -1, x.cant(0, 7, LEAST));
            due("i most", -1, x.cant(0, 7, MOST));
        });
    }

    // ---- 14

    static void promise14FamilyOnIslesThatAreThere() {
        isles((x, isle) -> x.family(isle, 1, -1) != -1);
    }

    static void promise14FamilyOf1To30() {
        TabooIsles x = Check.isles(TWO);
        bounds("family", 1, 30, many -> x.family(1, many, -1) == 1 && x.family(1, many, 0) == many);
    }

    static void promise14FamilyGroupsFromTheFirstToTheLast() {
        TabooIsles x = Check.isles("7,0;ab1");
        bounds("group of 7", -1, 1, i -> x.family(0, 7, i) != -1);
        bounds("group of 8", -1, 0, i -> x.family(0, 8, i) != -1);
    }

    static void promise14FamilyThatCantLand() {
        TabooIsles x = Check.isles("1,2,0;ab1");
        due("1: no group of 1", -1, x.family(0, 1, -1));
        due("1: no first group", -1, x.family(0, 1, 0));
        due("2 and 3 not in one", -1, x.family(0, 3, -1));
        due("4: 2 and 2", 2, x.family(0, 4, -1));
        due("2: neither one nor two groups", -1, x.family(1, 2, -1));
        due("1", 1, x.family(1, 1, -1));
        Check.customs(x, 2, "y:1");
        for (int many = 1; many <= 30; many++) {
            due("all forbidden", -1, x.family(2, many, -1));
            due("no first", -1, x.family(2, many, 0));
        }
    }

    static void promise14FamilyInTheMostGroups() {
        TabooIsles x = withCustom("y:n>3?1");
        due("9 in three", 3, x.family(2, 9, -1));
        due("the third", 3, x.family(2, 9, 2));
        due("no fourth", -1, x.family(2, 9, 3));
        due("10 not", -1, x.family(2, 10, -1));
        x = withCustom("y:n>5?1");
        due("25 in five", 5, x.family(2, 25, -1));
        due("26 not", -1, x.family(2, 26, -1));
        x = withCustom("y:n>6?1");
        due("30 in five", 5, x.family(2, 30, -1));
        x = withCustom("y:n>1&n<9|n>9?1");
        // groups of 1 and 9, one or nine of them
        due("9 at once", 1, x.family(2, 9, -1));
        due("17 in nine: 9 and eight of 1", 9, x.family(2, 17, -1));
        due("the first", 9, x.family(2, 17, 0));
        due("the ninth", 1, x.family(2, 17, 8));
        due("18 not", -1, x.family(2, 18, -1));
        due("25 in nine", 9, x.family(2, 25, -1));
        due("the second", 9, x.family(2, 25, 1));
        due("the third", 1, x.family(2, 25, 2));
    }

    static void promise14FamilyIsNoMatterOfHand() {
        TabooIsles x = hand(Check.isles("30,0;ab1"), 1);
        due("30 at once", 1, x.family(1, 30, -1));
        due("30 where 30 is forbidden", 2, x.family(0, 30, -1));
        due("29 and", 29, x.family(0, 30, 0));
        due("1", 1, x.family(0, 30, 1));
        due("29", 1, x.family(0, 29, -1));
    }

    static void promise14FamilyRefusedChangesNothing() {
        refused(x -> {
            due("isle -1", -1, x.family(-1, 5, -1));
            due("isle 6", -1, x.family(6, 5, -1));
            due("0", -1, x.family(0, 0, -1));
            due("31", -1, x.family(0, 31, -1));
            due("i -2", -1, x.family(0, 5, -2));
            due("i 1", -1, x.family(0, 5, 1));
            due("least", -1, x.family(0, LEAST, LEAST));
        });
    }

    // ---- 15

    static void promise15SplitsOnIslesThatAreThere() {
        isles((x, isle) -> x.splits(isle, 1) != -1);
    }

    static void promise15SplitsOf1To30() {
        TabooIsles x = Check.isles(TWO);
        bounds("family", 1, 30, many -> x.splits(1, many) != -1);
        int[] want = {1, 2, 3, 5, 7, 11, 15, 22, 30, 42, 56, 77, 101, 135, 176, 231, 297, 385, 490, 627, 792, 1002,
            1255, 1575, 1958, 2436, 3010, 3718, 4565, 5604};
        for (int many = 1; many <= 30; many++) {
            due("splits of " + many, want[many - 1], x.splits(0, many));
        }
    }

    static void promise15SplitsWhereNoneCan() {
        TabooIsles x = withCustom("y:1");
        due("1", 0, x.splits(2, 1));
        due("30", 0, x.splits(2, 30));
        x = withCustom("y:n>3?1");
        due("7", 2, x.splits(2, 7));
        due("8", 1, x.splits(2, 8));
        due("9", 1, x.splits(2, 9));
        due("10", 0, x.splits(2, 10));
    }

    static void promise15SplitsWithoutTheWholeAndTheSingle() {
        TabooIsles x = Check.isles("30,1,29;ab1");
        // neither 30 at once nor thirty groups of 1
        due("30 without 30", 5602, x.splits(0, 30));
        due("29 without 30", 4565, x.splits(0, 29));
        due("1 without 1", 0, x.splits(1, 1));
        due("3 without 1", 0, x.splits(1, 3));
        due("4 without 1", 1, x.splits(1, 4));
        // neither 29 and 1 nor twenty-nine groups: 2 and 28 of 1
        due("30 without 29", 5602, x.splits(2, 30));
    }

    static void promise15SplitsRefusedChangesNothing() {
        refused(x -> {
            due("isle -1", -1, x.splits(-1, 5));
            due("isle 6", -1, x.splits(6, 5));
            due("0", -1, x.splits(0, 0));
            due("31", -1, x.splits(0, 31));
            due("least", -1, x.splits(0, LEAST));
            due("most", -1, x.splits(0, MOST));
        });
    }

    // ---- 35

    static void promise35NearOnIslesThatAreThere() {
        isles((x, isle) -> x.near(isle, 1, 0) != -1);
    }

    static void promise35NearOfSums1To200() {
        TabooIsles x = Check.isles(TWO);
        bounds("sum", 1, 200, sum -> sum > 0 && x.near(1, sum, 7) == sum);
        due("0", -1, x.near(1, 0, 7));
        due("201", -1, x.near(1, 201, 7));
    }

    static void promise35NearByRules0To7() {
        TabooIsles x = Check.isles(TWO);
        bounds("rules", 0, 7, rules -> x.near(1, 20, rules) != -1);
    }

    static void promise35NearFromOneEndToTheOther() {
        TabooIsles x = withCustom("y:n>1?1");
        due("200 to 1", 1, x.near(2, 200, 2));
        due("1", 1, x.near(2, 1, 2));
        // fourteen parts of 14 alone
        x = hand(withCustom("y:n<14|n>14?1"), 20);
        due("1 to 196", 196, x.near(2, 1, 5));
        due("200 to 196", 196, x.near(2, 200, 5));
        due("196", 196, x.near(2, 196, 5));
        // fourteen parts of 14 and 15, none of 15 of them below 210
        x = hand(withCustom("y:n<14|n>15?1"), 20);
        due("1 to 196", 196, x.near(2, 1, 5));
        due("200", 200, x.near(2, 200, 5));
    }

    static void promise35NearOfSumsBehindSixtyParts() {
        TabooIsles x = Check.isles(TWO);
        for (int hand = 1; hand <= 3; hand++) {
            hand(x, hand);
            due("60 parts", 60 * hand, x.near(0, 60 * hand, 0));
            due("one more", 60 * hand, x.near(0, 60 * hand + 1, 0));
            due("200", 60 * hand, x.near(0, 200, 0));
        }
        hand(x, 4);
        due("200 in 50 parts", 200, x.near(0, 200, 0));
    }

    static void promise35NearOfTwoTheLower() {
        TabooIsles x = Check.isles("5,0;ab1");
        due("4 and 6", 4, x.near(0, 5, 2));
        x = withCustom("y:n>4&n<10?1");
        hand(x, 20);
        due("5 to 4", 4, x.near(2, 5, 2));
        due("6 to 4", 4, x.near(2, 6, 2));
        due("7 to 4, not 10", 4, x.near(2, 7, 2));
        due("8 to 10", 10, x.near(2, 8, 2));
        due("9 to 10", 10, x.near(2, 9, 2));
        due("1 may not be: 2", 2, Check.isles("1,0;ab1").near(0, 1, 2));
        due("200 may not be: 199", 199, withCustom("y:n=200?1").near(2, 200, 2));
    }

    static void promise35NearWhereNoSumCanBe() {
        TabooIsles x = withCustom("y:1");
        for (int rules = 1; rules <= 7; rules++) {
            due("1 by " + rules, -1, x.near(2, 1, rules));
            due("200 by " + rules, -1, x.near(2, 200, rules));
        }
        due("by 0", 200, x.near(2, 200, 0));
    }

    static void promise35NearRefusedChangesNothing() {
        refused(x -> {
            due("isle -1", -1, x.near(-1, 5, 0));
            due("isle 6", -1, x.near(6, 5, 0));
            due("sum 0", -1, x.near(0, 0, 0));
            due("sum 201", -1, x.near(0, 201, 0));
            due("rules -1", -1, x.near(0, 5, -1));
            due("rules 8", -1, x.near(0, 5, 8));
            due("most", -1, x.near(0, MOST, 0));
        });
    }

    // ---- 36

    static void promise36JointOfTwoIslesThatAreThere() {
        isles((x, isle) -> x.joint(isle, isle == 0 ? 1 : 0, 1, 0) != -1);
        isles((x, isle) -> x.joint(isle == 0 ? 1 : 0, isle, 1, 0) != -1);
    }

    static void promise36JointOfTwoAlike() {
        TabooIsles x = Check.isles(SIX);
        for (int isle = 0; isle < 6; isle++) {
            due("alike", -1, x.joint(isle, isle, 9, 0));
        }
        due("unlike", 1, x.joint(4, 5, 9, 0));
    }

    static void promise36JointOfSums1To200() {
        TabooIsles x = Check.isles(TWO);
        bounds("sum", 1, 200, sum -> x.joint(0, 1, sum, 7) != -1);
    }

    static void promise36JointByRules0To7() {
        TabooIsles x = Check.isles(TWO);
        bounds("rules", 0, 7, rules -> x.joint(0, 1, 20, rules) != -1);
    }

    static void promise36JointSixtyPartsNotSixtyOne() {
        TabooIsles x = hand(Check.isles(TWO), 1);
        due("60", 60, x.joint(0, 1, 60, 7));
        due("61", -1, x.joint(0, 1, 61, 7));
        hand(x, 3);
        due("180", 60, x.joint(0, 1, 180, 7));
        due("181", -1, x.joint(0, 1, 181, 7));
    }

    static void promise36JointIsOneRowForBoth() {
        TabooIsles x = Check.isles("9,8,1,2;ab1");
        due("9 without 9", 2, x.joint(0, 3, 9, 1));
        due("16 without 9, 8", 3, x.joint(0, 1, 16, 1));
        due("17 by totals", 3, x.joint(0, 1, 17, 2));
        due("8 on either", -1, x.joint(0, 1, 8, 2));
        due("9 on either", -1, x.joint(1, 0, 9, 2));
        due("neither one nor two parts", 3, x.joint(2, 3, 9, 4));
        due("2: three parts are too many", -1, x.joint(2, 3, 2, 4));
        due("3 in three", 3, x.joint(2, 3, 3, 4));
        due("each alone: 2 in two", 2, x.pay(2, 2, 4, -1));
    }

    static void promise36JointWhereItCantBe() {
        TabooIsles x = withCustom("y:1");
        for (int rules = 1; rules <= 7; rules++) {
            due("the first can't", -1, x.joint(2, 0, 9, rules));
            due("the second can't", -1, x.joint(0, 2, 9, rules));
            due("both can", 1, x.joint(0, 1, 9, rules));
        }
    }

    static void promise36JointRefusedChangesNothing() {
        refused(x -> {
            due("one -1", -1, x.joint(-1, 0, 5, 0));
            due("one 6", -1, x.joint(6, 0, 5, 0));
            due("other -1", -1, x.joint(0, -1, 5, 0));
            due("other 6", -1, x.joint(0, 6, 5, 0));
            due("alike", -1, x.joint(1, 1, 5, 0));
            due("sum 0", -1, x.joint(0, 1, 0, 0));
            due("sum 201", -1, x.joint(0, 1, 201, 0));
            due("rules -1", -1, x.joint(0, 1, 5, -1));
            due("rules 8", -1, x.joint(0, 1, 5, 8));
        });
    }

    // ---- 37

    static void promise37WorstOnIslesThatAreThere() {
        isles((x, isle) -> x.worst(isle, 0, 0) != -1);
    }

    static void promise37WorstByRules0To7() {
        TabooIsles x = Check.isles(TWO);
        bounds("rules", 0, 7, rules -> x.worst(1, rules, 0) != -1);
    }

    static void promise37WorstOfTwoQuestions() {
        TabooIsles x = Check.isles(TWO);
        bounds("what", 0, 1, what -> x.worst(1, 2, what) != -1);
    }

    static void promise37WorstOfTaboos1To30() {
        for (int taboo : new int[] {1, 2, 15, 29, 30}) {
            TabooIsles x = withCustom("y:t=" + taboo + "?1");
            due("the taboo", taboo, x.worst(2, 2, 0));
            due("all sums", 200, x.worst(2, 2, 1));
        }
        for (int taboo : new int[] {0, 31, 32, 99}) {
            TabooIsles x = withCustom("y:t=" + taboo + "?1");
            due("not " + taboo, 1, x.worst(2, 2, 0));
            due("one sum alone", 1, x.worst(2, 2, 1));
        }
    }

    static void promise37WorstOfSeveralTheLowest() {
        TabooIsles x = hand(Check.isles("30,0;ab1"), 1);
        due("by 0", 1, x.worst(0, 0, 0));
        due("all behind 60", 140, x.worst(0, 0, 1));
        due("no 1", 1, x.worst(0, 2, 0));
        due("none can be", 200, x.worst(0, 2, 1));
        due("one count each", 1, x.worst(0, 4, 0));
        due("and all behind 60", 141, x.worst(0, 4, 1));
        hand(x, 20);
        due("each sum for itself", 1, x.worst(0, 2, 0));
        due("one", 1, x.worst(0, 2, 1));
        x = withCustom("y:t=12|t=29?1");
        due("12 and 29 alike", 12, x.worst(2, 1, 0));
    }

    static void promise37WorstInPlaceOfThatOfToday() {
        TabooIsles x = Check.isles("5,0;ab1");
        due("5 itself may be said", 1, x.worst(0, 2, 1));
        due("the taboo stays", 5, x.taboo(0, 0));
        x.change(0, 3, 40);
        x.today(3);
        due("40 is no more in the way", 1, x.worst(0, 2, 1));
        due("the taboo stays", 40, x.taboo(0, 3));
    }

    static void promise37WorstRefusedChangesNothing() {
        refused(x -> {
            due("isle -1", -1, x.worst(-1, 0, 0));
            due("isle 6", -1, x.worst(6, 0, 0));
            due("rules -1", -1, x.worst(0, -1, 0));
            due("rules 8", -1, x.worst(0, 8, 0));
            due("what -1", -1, x.worst(0, 0, -1));
            due("what 2", -1, x.worst(0, 0, 2));
            due("least", -1, x.worst(0, LEAST, LEAST));
        });
    }
}

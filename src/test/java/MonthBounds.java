/** Promises 16 to 20, 39 and 40: DATES, debts, and a bit, CALENDARS. */
final class MonthBounds extends Bounds {
    private MonthBounds() {
    }

    // ---- 16

    static void promise16DateOnIslesThatAreThere() {
        isles((x, isle) -> x.date(isle, 1) != -1);
        isles((x, isle) -> x.date(isle, -1) != -1);
    }

    static void promise16DateTheFirstToTheThirtieth() {
        TabooIsles x = Check.isles(TWO);
        due("how many", 30, x.date(0, -1));
        due("0", -1, x.date(0, 0));
        bounds("the k-th", 1, 30, k -> k != -1 && x.date(0, k) == k);
    }

    static void promise16DateWithoutOneMissing() {
        for (int taboo = 1; taboo <= 30; taboo++) {
            TabooIsles x = Check.isles("0," + taboo + ";ab1");
            due("how many", 29, x.date(1, -1));
            due("the first", taboo == 1 ? 2 : 1, x.date(1, 1));
            due("the last", taboo == 30 ? 29 : 30, x.date(1, 29));
            due("no 30th", -1, x.date(1, 30));
            due("in its place", taboo == 30 ? -1 : taboo + 1, x.date(1, taboo));
        }
        TabooIsles x = Check.isles("0,31;ab1");
        due("31 is no date", 30, x.date(1, -1));
        due("the last", 30, x.date(1, 30));
    }

    static void promise16DateWhereAllAreMissing() {
        TabooIsles x = withCustom("y:n<31?1");
        due("none", 0, x.date(2, -1));
        for (int k = 1; k <= 30; k++) {
            due("no " + k, -1, x.date(2, k));
        }
    }

    static void promise16DateWhereOneIsLeft() {
        TabooIsles x = withCustom("y:n<30?1");
        due("one", 1, x.date(2, -1));
        due("it is 30", 30, x.date(2, 1));
        due("no second", -1, x.date(2, 2));
        x = withCustom("y:n>1?1");
        due("one", 1, x.date(2, -1));
        due("it is 1", 1, x.date(2, 1));
        due("no second", -1, x.date(2, 2));
    }

    static void promise16DateRefusedChangesNothing() {
        refused(x -> {
            due("isle -1", -1, x.date(-1, 1));
            due("isle 6", -1, x.date(6, 1));
            due("k 0", -1, x.date(0, 0));
            due("k -2", -1, x.date(0, -2));
            due("k 31", -1, x.date(0, 31));
            due("k least", -1, x.date(0, LEAST));
            due("k most", -1, x.date(0, MOST));
        });
    }

    // ---- 17

    private static void debt(TabooIsles x, int date, int jumped, int later) {
        due("the date of " + date, jumped, x.debt(2, date, 0));
        due("months later of " + date, later, x.debt(2, date, 1));
    }

    static void promise17DebtOnIslesThatAreThere() {
        isles((x, isle) -> x.debt(isle, 1, 0) != -1);
    }

    static void promise17DebtOfDates1To30() {
        TabooIsles x = Check.isles(TWO);
        bounds("date", 1, 30, date -> x.debt(1, date, 0) == date && x.debt(1, date, 1) == 0);
    }

    static void promise17DebtOfTwoQuestions() {
        TabooIsles x = Check.isles(TWO);
        bounds("what", 0, 1, what -> x.debt(1, 5, what) != -1);
    }

    static void promise17DebtJumpsIntoTheMonthBehindFrom30() {
        TabooIsles x = Check.isles("0,0,30;ab1");
        debt(x, 29, 29, 0);
        debt(x, 30, 1, 1);
        x = Check.isles("0,0,1;ab1");
        debt(x, 1, 2, 0);
        debt(x, 30, 30, 0);
        x = withCustom("y:n<3|n>28?1");
        debt(x, 1, 3, 0);
        debt(x, 28, 28, 0);
        debt(x, 29, 3, 1);
        debt(x, 30, 3, 1);
    }

    static void promise17DebtWhereOneDateIsLeft() {
        for (int left : new int[] {1, 2, 15, 29, 30}) {
            TabooIsles x = withCustom("y:!n=" + left + "?1");
            debt(x, left, left, 0);
            if (left > 1) {
                debt(x, 1, left, 0);
                debt(x, left - 1, left, 0);
            }
            if (left < 30) {
                debt(x, left + 1, left, 1);
                debt(x, 30, left, 1);
            }
        }
    }

    static void promise17DebtWhereAllAreMissing() {
        TabooIsles x = withCustom("y:n<31?1");
        for (int date = 1; date <= 30; date++) {
            debt(x, date, -1, -1);
        }
    }

    static void promise17DebtRefusedChangesNothing() {
        refused(x -> {
            due("isle -1", -1, x.debt(-1, 1, 0));
            due("isle 6", -1, x.debt(6, 1, 0));
            due("date 0", -1, x.debt(0, 0, 0));
            due("date 31", -1, x.debt(0, 31, 0));
            due("what -1", -1, x.debt(0, 1, -1));
            due("what 2", -1, x.debt(0, 1, 2));
            due("least", -1, x.debt(0, LEAST, LEAST));
        });
    }

    // ---- 18

    static void promise18BitOnIslesThatAreThere() {
        isles((x, isle) -> x.bit(isle, 1, -1) != -1);
    }

    static void promise18BitOf0To200() {
        TabooIsles x = Check.isles(TWO);
        bounds("m", 0, 200, m -> x.bit(1, m, -1) == 0);
        due("200 and a bit", 799, withCustom("y:n>200?1").bit(2, 200, -1));
        due("0 and a bit", 3, withCustom("y:n<4?1").bit(2, 0, -1));
    }

    static void promise18BitOfAForbiddenNumber() {
        TabooIsles x = withCustom("y:n=7|n=200?1");
        due("6", 1, x.bit(2, 6, -1));
        due("7", -1, x.bit(2, 7, -1));
        due("7, the first", -1, x.bit(2, 7, 0));
        due("8", 0, x.bit(2, 8, -1));
        due("199", 1, x.bit(2, 199, -1));
        due("200", -1, x.bit(2, 200, -1));
        due("0 never is", 0, x.bit(2, 0, -1));
    }

    static void promise18BitUpTo999() {
        TabooIsles x = withCustom("y:1");
        due("all", 999, x.bit(2, 0, -1));
        due("the first", 1, x.bit(2, 0, 0));
        due("the last", 999, x.bit(2, 0, 998));
        due("no more", -1, x.bit(2, 0, 999));
        x = withCustom("y:n>200?1");
        due("the last", 999, x.bit(2, 200, 798));
        due("no more", -1, x.bit(2, 200, 799));
        x = withCustom("y:n>200&n<999?1");
        due("but 999", 798, x.bit(2, 200, -1));
        due("the last", 998, x.bit(2, 200, 797));
        due("no more", -1, x.bit(2, 200, 798));
    }

    static void promise18BitWithNoneBetween() {
        TabooIsles x = withCustom("y:n>6&n<10|n=11?1");
        due("three", 3, x.bit(2, 6, -1));
        bounds("the i-th", -1, 2, i -> x.bit(2, 6, i) != -1);
        due("the first", 7, x.bit(2, 6, 0));
        due("the last", 9, x.bit(2, 6, 2));
        due("11 is behind 10", 1, x.bit(2, 10, -1));
        due("none meant by 5", 0, x.bit(2, 5, -1));
        due("no first of none", -1, x.bit(2, 5, 0));
    }

    static void promise18BitRefusedChangesNothing() {
        refused(x -> {
            due("isle -1", -1, x.bit(-1, 0, -1));
            due("isle 6", -1, x.bit(6, 0, -1));
            due("m -1", -1, x.bit(0, -1, -1));
            due("m 201", -1, x.bit(0, 201, -1));
            due("i -2", -1, x.bit(0, 0, -2));
            due("i 999", -1, x.bit(0, 0, 999));
            due("i most", -1, x.bit(0, 0, MOST));
            due("i least", -1, x.bit(0, 0, LEAST));
        });
    }

    // ---- 19

    static void promise19WeightOfNumbers1To99() {
        TabooIsles x = new TabooIsles();
        bounds("number", 1, 99, number -> x.weight(number, 5));
    }

    static void promise19WeightFrom0To99() {
        TabooIsles x = new TabooIsles();
        bounds("weight", 0, 99, v -> x.weight(99, v));
        bounds("weight", 0, 99, v -> x.weight(1, v));
    }

    static void promise19WeightIs1AtFirst() {
        TabooIsles x = withCustom("y:n<101?1");
        for (int i = 0; i < 100; i++) {
            due("number " + (i + 1), 10000, x.likely(2, 0, i));
        }
    }

    static void promise19WeightIsThatOfItsNumberAlone() {
        for (int number = 1; number <= 99; number++) {
            TabooIsles x = withCustom("y:n<101?1");
            due("weight", true, x.weight(number, 0));
            due("its own", 0, x.likely(2, 0, number - 1));
            due("the one behind", 10101, x.likely(2, 0, number));
            due("the one ahead", number == 1 ? -1 : 10101, x.likely(2, 0, number - 2));
        }
    }

    static void promise19WeightRefusedChangesNothing() {
        refused(x -> {
            for (int v : new int[] {0, -1, 100, 101, LEAST, MOST}) {
                due("number " + v, false, x.weight(v, 5));
            }
            for (int v : new int[] {-1, 100, 101, 256, LEAST, MOST}) {
                due("weight " + v, false, x.weight(50, v));
                due("weight " + v, false, x.weight(99, v));
            }
        });
    }

    // ---- 20

    static void promise20LikelyOnIslesThatAreThere() {
        isles((x, isle) -> {
            Check.tell(x, 1, "y:n=2?1");
            x.custom(isle, 0);
            return x.likely(isle, 1, 0) != -1;
        });
    }

    static void promise20LikelyOf0To200() {
        TabooIsles x = withCustom("y:n/2*2=n+0&n>0?0;y:1");
        // all odd numbers are forbidden: each even m means one
        for (int m = 0; m <= 201; m++) {
            due("m " + m, m % 2 == 0 && m <= 200 ? 1000000 : -1, x.likely(2, m, 0));
        }
        due("m 202", -1, x.likely(2, 202, 0));
        due("m -2", -1, x.likely(2, -2, 0));
        due("m least", -1, x.likely(2, LEAST, 0));
    }

    static void promise20LikelyFromTheFirstToTheLast() {
        TabooIsles x = withCustom("y:n>6&n<10?1");
        bounds("the i-th", 0, 2, i -> x.likely(2, 6, i) == 333333);
        TabooIsles y = withCustom("y:1");
        bounds("of 999", 0, 998, i -> y.likely(2, 0, i) == 1001);
    }

    static void promise20LikelyOfNone() {
        TabooIsles x = withCustom("y:n=7?1");
        due("none meant", -1, x.likely(2, 5, 0));
        due("forbidden", -1, x.likely(2, 7, 0));
        due("how many is not asked", -1, x.likely(2, 6, -1));
        due("the only one", 1000000, x.likely(2, 6, 0));
    }

    static void promise20LikelyOfAForbiddenNumber() {
        TabooIsles x = Check.customs(Check.isles("6,7,0;ab1"), 2, "y:n>6&n<10?1");
        due("6 of c", 333333, x.likely(2, 6, 0));
        due("7 of c", -1, x.likely(2, 7, 0));
        due("8 of c", -1, x.likely(2, 8, 0));
        due("9 of c", -1, x.likely(2, 9, 0));
        due("6 of b", 1000000, x.likely(1, 6, 0));
        due("6 of a", -1, x.likely(0, 6, 0));
        due("5 of a", 1000000, x.likely(0, 5, 0));
        due("6 of c is not forbidden", 3, x.bit(2, 6, -1));
        due("7 of c is", -1, x.bit(2, 7, -1));
    }

    static void promise20LikelyWhereAllWeightsAre0() {
        TabooIsles x = withCustom("y:n>6&n<10?1");
        x.weight(7, 0);
        x.weight(8, 0);
        due("9 alone", 1000000, x.likely(2, 6, 2));
        due("7 not", 0, x.likely(2, 6, 0));
        x.weight(9, 0);
        for (int i = 0; i < 3; i++) {
            due("all 0", -1, x.likely(2, 6, i));
        }
        x.weight(7, 1);
        due("7 alone", 1000000, x.likely(2, 6, 0));
    }

    static void promise20LikelyOfTheGreatestWeights() {
        TabooIsles x = withCustom("y:n<100?1");
        for (int number = 1; number <= 99; number++) {
            x.weight(number, 99);
        }
        due("the first", 10101, x.likely(2, 0, 0));
        due("the last", 10101, x.likely(2, 0, 98));
        for (int number = 2; number <= 99; number++) {
            x.weight(number, 0);
        }
        due("99 of 99", 1000000, x.likely(2, 0, 0));
        x.weight(99, 1);
        due("99 of 100", 990000, x.likely(2, 0, 0));
        due("1 of 100", 10000, x.likely(2, 0, 98));
    }

    static void promise20LikelyOfNumbersAbove99() {
        TabooIsles x = withCustom("y:n>97&n<102?1");
        x.weight(98, 0);
        x.weight(99, 0);
        due("98", 0, x.likely(2, 97, 0));
        due("99", 0, x.likely(2, 97, 1));
        due("100", 500000, x.likely(2, 97, 2));
        due("101", 500000, x.likely(2, 97, 3));
        due("no 102", -1, x.likely(2, 97, 4));
        x.weight(99, 99);
        due("99", 980198, x.likely(2, 97, 1));
        due("100", 9900, x.likely(2, 97, 2));
        x = withCustom("y:n>200?1");
        due("799 of weight 1", 1251, x.likely(2, 200, 798));
    }

    static void promise20LikelyRefusedChangesNothing() {
        refused(x -> {
            due("isle -1", -1, x.likely(-1, 6, 0));
            due("isle 6", -1, x.likely(6, 6, 0));
            due("m -1", -1, x.likely(0, -1, 0));
            due("m 201", -1, x.likely(0, 201, 0));
            due("i -1", -1, x.likely(0, 6, -1));
            due("i 999", -1, x.likely(0, 6, 999));
            due("i most", -1, x.likely(0, 6, MOST));
            due("i least", -1, x.likely(0, 6, LEAST));
        });
    }

    // ---- 39

    static void promise39CalendarOnIslesThatAreThere() {
        isles((x, isle) -> x.calendar(isle, 0) != -1);
    }

    static void promise39CalendarOf0To60DaysOn() {
        TabooIsles x = Check.isles(TWO);
        bounds("days on", 0, 60, k -> k >= 0 && x.calendar(1, k) == k % 30 + 1);
        due("-1", -1, x.calendar(1, -1));
        due("61", -1, x.calendar(1, 61));
    }

    static void promise39CalendarBehind30Comes1() {
        TabooIsles x = Check.isles("0,30,1;ab1");
        due("30", 30, x.calendar(0, 29));
        due("1", 1, x.calendar(0, 30));
        due("29", 29, x.calendar(1, 28));
        due("1 behind 29", 1, x.calendar(1, 29));
        due("the first is 2", 2, x.calendar(2, 0));
        due("30", 30, x.calendar(2, 28));
        due("2 behind 30", 2, x.calendar(2, 29));
        due("60 days on", 4, x.calendar(2, 60));
    }

    static void promise39CalendarWhereOneDateIsLeft() {
        for (int left : new int[] {1, 2, 29, 30}) {
            TabooIsles x = withCustom("y:!n=" + left + "?1");
            for (int k : new int[] {0, 1, 2, 59, 60}) {
                due("each day the one left", left, x.calendar(2, k));
            }
        }
    }

    static void promise39CalendarWhereAllAreForbiddenOnSomeDay() {
        TabooIsles x = withCustom("y:d=5&n<31?1");
        due("day 4", 5, x.calendar(2, 4));
        due("day 5", -1, x.calendar(2, 5));
        due("day 6", -1, x.calendar(2, 6));
        due("60 days on", -1, x.calendar(2, 60));
        x.today(5);
        due("today", -1, x.calendar(2, 0));
        due("60 days on", -1, x.calendar(2, 60));
        x.today(6);
        due("behind it", 1, x.calendar(2, 0));
        due("60 days behind it", 1, x.calendar(2, 60));
    }

    static void promise39CalendarBeginsToday() {
        TabooIsles x = Check.isles("0,0,0;ab1");
        x.change(2, 10, 1);
        x.change(2, 11, 0);
        x.today(9);
        due("1", 1, x.calendar(2, 0));
        due("2", 2, x.calendar(2, 1));
        x.today(10);
        due("the first day begins with 2", 2, x.calendar(2, 0));
        due("3", 3, x.calendar(2, 1));
        x.today(11);
        due("1 again", 1, x.calendar(2, 0));
    }

    static void promise39CalendarOfDaysAbove99AskedAs99() {
        TabooIsles x = withCustom("y:d=99?1");
        x.today(38);
        due("98", 1, x.calendar(2, 60));
        x.today(39);
        due("99", -1, x.calendar(2, 60));
        due("98", 30, x.calendar(2, 59));
        x.today(98);
        due("98", 1, x.calendar(2, 0));
        due("99", -1, x.calendar(2, 1));
        x.today(99);
        due("99", -1, x.calendar(2, 0));
        x = withCustom("y:d=98?1");
        x.today(99);
        due("99 sixty-one times", 1, x.calendar(2, 60));
        x = Check.isles("0,0,0;ab1");
        x.change(2, 99, 3);
        x.today(98);
        due("3 is missing on 99", 4, x.calendar(2, 2));
        due("and behind", 4, x.calendar(2, 31));
    }

    static void promise39CalendarRefusedChangesNothing() {
        refused(x -> {
            due("isle -1", -1, x.calendar(-1, 0));
            due("isle 6", -1, x.calendar(6, 0));
            due("k -1", -1, x.calendar(0, -1));
            due("k 61", -1, x.calendar(0, 61));
            due("k least", -1, x.calendar(0, LEAST));
            due("k most", -1, x.calendar(0, MOST));
        });
    }

    // ---- 40

    static void promise40TwinsOfTwoIslesThatAreThere() {
        isles((x, isle) -> x.twins(isle, isle == 0 ? 1 : 0, 0) != -1);
        isles((x, isle) -> x.twins(isle == 0 ? 1 : 0, isle, 0) != -1);
    }

    static void promise40TwinsOfTwoAlike() {
        TabooIsles x = Check.isles(SIX);
        for (int isle = 0; isle < 6; isle++) {
            due("alike", -1, x.twins(isle, isle, 3));
        }
        due("unlike", 4, x.twins(4, 5, 3));
    }

    static void promise40TwinsOf0To60DaysOn() {
        TabooIsles x = Check.isles(TWO);
        bounds("days on", 0, 60, k -> k >= 0 && x.twins(0, 1, k) == k + 1);
        due("-1", -1, x.twins(0, 1, -1));
        due("61", -1, x.twins(0, 1, 61));
    }

    static void promise40TwinsOnNoDayAndOnAll() {
        TabooIsles x = Check.isles("0,1,31;ab1");
        for (int k : new int[] {0, 1, 29, 30, 59, 60}) {
            due("on none", 0, x.twins(0, 1, k));
            due("on all", k + 1, x.twins(0, 2, k));
        }
        x = Check.isles("7,0;ab1");
        due("up to 6", 6, x.twins(0, 1, 5));
        due("7 is missing", 6, x.twins(0, 1, 6));
        due("one ahead from there", 6, x.twins(1, 0, 60));
    }

    static void promise40TwinsWithoutACalendarOfOne() {
        TabooIsles x = withCustom("y:d=5?1");
        due("day 4", 5, x.twins(0, 2, 4));
        due("day 5", -1, x.twins(0, 2, 5));
        due("day 5 of the first", -1, x.twins(2, 0, 5));
        due("behind", -1, x.twins(2, 0, 60));
        x.today(5);
        due("today", -1, x.twins(2, 1, 0));
        x.custom(1, 0);
        due("of both", -1, x.twins(2, 1, 0));
        x.today(6);
        due("of both behind it", 61, x.twins(2, 1, 60));
    }

    static void promise40TwinsRefusedChangesNothing() {
        refused(x -> {
            due("one -1", -1, x.twins(-1, 0, 0));
            due("one 6", -1, x.twins(6, 0, 0));
            due("other -1", -1, x.twins(0, -1, 0));
            due("other 6", -1, x.twins(0, 6, 0));
            due("alike", -1, x.twins(1, 1, 0));
            due("k -1", -1, x.twins(0, 1, -1));
            due("k 61", -1, x.twins(0, 1, 61));
            due("k most", -1, x.twins(0, 1, MOST));
        });
    }
}

import java.util.NoSuchElementException;

/** Promises 6 to 10: TABOOS, WAYS, CUSTOMS of ISLES, what is FORBIDDEN, HAND. */
final class NumberBounds extends Bounds {
    private static final int THROWN = -77;

    private NumberBounds() {
    }

    private static int taboo(TabooIsles x, int isle, int day) {
        try {
            return x.taboo(isle, day);
        } catch (NoSuchElementException e) {
            return THROWN;
        }
    }

    // ---- 6

    static void promise06TabooOfIslesThatAreThere() {
        isles((x, isle) -> taboo(x, isle, 0) != THROWN);
    }

    static void promise06TabooOfDays0To99() {
        bounds("day", 0, 99, day -> taboo(Check.isles(TWO), 1, day) != THROWN);
    }

    static void promise06TabooThrowsNoSuchElementException() {
        TabooIsles x = Check.isles(TWO);
        int[][] wrong = {{-1, 0}, {2, 0}, {0, -1}, {0, 100}, {LEAST, LEAST}, {MOST, MOST}, {2, 100}, {-1, -1}};
        for (int[] of : wrong) {
            CHECK.dueNoSuch(x, of[0], of[1]);
        }
        CHECK.dueNoSuch(new TabooIsles(), 0, 0);
        CHECK.dueNoSuch(new TabooIsles(), -1, 99);
    }

    static void promise06TabooRefusedChangesNothing() {
        refused(x -> {
            CHECK.dueNoSuch(x, -1, 0);
            CHECK.dueNoSuch(x, 6, 0);
            CHECK.dueNoSuch(x, 0, -1);
            CHECK.dueNoSuch(x, 0, 100);
        });
    }

    static void promise06TabooFrom0To99AsTold() {
        for (int taboo = 0; taboo <= 99; taboo++) {
            TabooIsles x = Check.isles("5," + taboo + ";ab1");
            due("taboo on day 0", taboo, x.taboo(1, 0));
            due("taboo on day 99", taboo, x.taboo(1, 99));
        }
    }

    static void promise06TabooOfTheDayOfAChangeNotTheDayAhead() {
        for (int day = 0; day <= 99; day++) {
            TabooIsles x = Check.isles("5,6;ab1");
            x.change(1, day, 7);
            due("the day ahead of " + day, day == 0 ? THROWN : 6, taboo(x, 1, day - 1));
            due("day " + day, 7, x.taboo(1, day));
            due("the last day", 7, x.taboo(1, 99));
            due("of the other", 5, x.taboo(0, day));
        }
    }

    static void promise06TabooOfTheLatestChangeNotThatToldLast() {
        TabooIsles x = Check.isles("5,6;ab1");
        x.change(0, 20, 1);
        x.change(0, 10, 2);
        x.change(0, 99, 3);
        x.change(0, 0, 4);
        int[] days = {0, 9, 10, 19, 20, 98, 99};
        int[] want = {4, 4, 2, 2, 1, 1, 3};
        for (int k = 0; k < days.length; k++) {
            due("day " + days[k], want[k], x.taboo(0, days[k]));
        }
    }

    static void promise06TabooOfOneDayIsThatToldLast() {
        TabooIsles x = Check.isles("5,6;ab1");
        for (int k = 1; k <= 20; k++) {
            x.change(0, k % 2 == 0 ? 50 : 40, k);
            due("day 50", k % 2 == 0 ? k : k == 1 ? 1 : k - 1, x.taboo(0, 50));
            due("day 49", k % 2 == 0 ? k - 1 : k, x.taboo(0, 49));
            due("day 39", 5, x.taboo(0, 39));
        }
    }

    // ---- 7

    static void promise07WayOfIslesThatAreThere() {
        String all = "0,0,0,0,0,0;ab1,ac1,ad1,ae1,af1,bc1,bd1,be1,bf1,cd1,ce1,cf1,de1,df1,ef1";
        bounds("one of two", 0, 0, one -> Check.isles(TWO).way(one, 1) != -1);
        bounds("other of two", 1, 1, other -> Check.isles(TWO).way(0, other) != -1);
        bounds("one of six", 0, 4, one -> Check.isles(all).way(one, 5) != -1);
        bounds("other of six", 1, 5, other -> Check.isles(all).way(0, other) != -1);
        due("of none", -1, new TabooIsles().way(0, 1));
    }

    static void promise07WayIsNoneWithoutOne() {
        TabooIsles x = Check.isles("0,0,0,0;ab1,cd9");
        due("a to c", -1, x.way(0, 2));
        due("c to a", -1, x.way(2, 0));
        due("b to d", -1, x.way(1, 3));
        for (int isle = 0; isle < 4; isle++) {
            due("to itself", -1, x.way(isle, isle));
        }
        due("a to b", 1, x.way(0, 1));
        due("d to c", 9, x.way(3, 2));
    }

    static void promise07WayOfOneToNineDays() {
        for (int days = 1; days <= 9; days++) {
            TabooIsles x = Check.isles("0,0;ba" + days);
            due("way", days, x.way(0, 1));
            due("the other way", days, x.way(1, 0));
        }
    }

    static void promise07WayRefusedChangesNothing() {
        refused(x -> {
            due("-1", -1, x.way(-1, 0));
            due("6", -1, x.way(0, 6));
            due("itself", -1, x.way(1, 1));
            due("least", -1, x.way(LEAST, MOST));
        });
    }

    // ---- 8

    static void promise08CustomOfIslesThatAreThere() {
        isles((x, isle) -> x.custom(isle, -1));
        isles((x, isle) -> {
            Check.tell(x, 1, "y:1");
            return x.custom(isle, 0);
        });
    }

    static void promise08CustomThatWasToldOrNone() {
        for (int told = 0; told <= 4; told++) {
            TabooIsles x = Check.isles(TWO);
            for (int k = 0; k < told; k++) {
                Check.tell(x, 1, "y:1");
            }
            bounds("of " + told + ", custom", -1, told - 1, custom -> x.custom(1, custom));
        }
    }

    static void promise08CustomNoneAtFirst() {
        TabooIsles x = new TabooIsles();
        Check.tell(x, 1, "y:1");
        Check.tell(x, 0, SIX);
        for (int isle = 0; isle < 6; isle++) {
            due("isle " + isle, 0, x.forbidden(isle, 5, 0));
        }
        x.custom(5, 0);
        due("f", 1, x.forbidden(5, 5, 0));
        due("e", 0, x.forbidden(4, 5, 0));
    }

    static void promise08CustomNoneAgain() {
        TabooIsles x = Check.isles("0,5;ab1");
        Check.tell(x, 1, "y:n=7?1");
        Check.tell(x, 1, "y:n=8?1");
        due("0", true, x.custom(1, 0));
        due("7", 1, x.forbidden(1, 7, 0));
        due("1", true, x.custom(1, 1));
        due("7 no more", 0, x.forbidden(1, 7, 0));
        due("8", 1, x.forbidden(1, 8, 0));
        due("none", true, x.custom(1, -1));
        due("8 no more", 0, x.forbidden(1, 8, 0));
        due("the taboo stays", 1, x.forbidden(1, 5, 0));
    }

    static void promise08CustomRefusedChangesNothing() {
        refused(x -> {
            due("isle -1", false, x.custom(-1, 0));
            due("isle 6", false, x.custom(6, 0));
            due("custom -2", false, x.custom(2, -2));
            due("custom 4", false, x.custom(2, 4));
            due("least", false, x.custom(2, LEAST));
            due("most", false, x.custom(2, MOST));
        });
    }

    // ---- 9

    static void promise09ForbiddenOnIslesThatAreThere() {
        isles((x, isle) -> x.forbidden(isle, 1, 0) != -1);
    }

    static void promise09ForbiddenOfNumbers0To999() {
        bounds("number", 0, 999, number -> Check.isles(TWO).forbidden(0, number, 0) != -1);
    }

    static void promise09ForbiddenOnDays0To99() {
        bounds("day", 0, 99, day -> Check.isles(TWO).forbidden(0, 1, day) != -1);
    }

    static void promise09Forbidden0Never() {
        TabooIsles x = Check.customs(Check.isles("0,0,5;ab1"), 1, "y:1");
        for (int isle = 0; isle < 3; isle++) {
            for (int day : new int[] {0, 50, 99}) {
                due("0 on " + isle, 0, x.forbidden(isle, 0, day));
            }
        }
        x.change(2, 0, 0);
        due("0 where 0 was told", 0, x.forbidden(2, 0, 0));
    }

    static void promise09ForbiddenNothingWithoutTabooAndCustom() {
        for (int from = 0; from < 1000; from += 250) {
            TabooIsles x = Check.isles(NO_TABOOS);
            for (int number = from; number < from + 250; number++) {
                due("number " + number, 0, x.forbidden(2, number, 99));
            }
        }
    }

    static void promise09ForbiddenAllBut0() {
        for (int from = 0; from < 1000; from += 250) {
            TabooIsles x = withCustom("y:1");
            for (int number = from; number < from + 250; number++) {
                due("number " + number, number == 0 ? 0 : 1, x.forbidden(2, number, 0));
            }
        }
    }

    static void promise09ForbiddenTheTabooAlone() {
        for (int taboo = 1; taboo <= 99; taboo++) {
            TabooIsles x = Check.isles("0," + taboo + ";ab1");
            due("below", 0, x.forbidden(1, taboo - 1, 0));
            due("the taboo", 1, x.forbidden(1, taboo, 99));
            due("above", 0, x.forbidden(1, taboo + 1, 0));
            due("on the other", 0, x.forbidden(0, taboo, 0));
        }
    }

    static void promise09ForbiddenByEither() {
        TabooIsles x = Check.customs(Check.isles("0,0,7;ab1"), 2, "y:n=8?1");
        due("6", 0, x.forbidden(2, 6, 0));
        due("7 by the taboo", 1, x.forbidden(2, 7, 0));
        due("8 by the custom", 1, x.forbidden(2, 8, 0));
        due("9", 0, x.forbidden(2, 9, 0));
        x.custom(2, -1);
        due("7 by the taboo", 1, x.forbidden(2, 7, 0));
        due("8 no more", 0, x.forbidden(2, 8, 0));
    }

    static void promise09ForbiddenRefusedChangesNothing() {
        refused(x -> {
            due("isle -1", -1, x.forbidden(-1, 1, 0));
            due("isle 6", -1, x.forbidden(6, 1, 0));
            due("number -1", -1, x.forbidden(0, -1, 0));
            due("number 1000", -1, x.forbidden(0, 1000, 0));
            due("day -1", -1, x.forbidden(0, 1, -1));
            due("day 100", -1, x.forbidden(0, 1, 100));
        });
    }

    // ---- 10

    static void promise10HandOf1To20() {
        TabooIsles x = new TabooIsles();
        bounds("hand", 1, 20, x::hand);
        TabooIsles y = Check.isles(TWO);
        bounds("hand", 1, 20, y::hand);
    }

    static void promise10HandIs9AtFirst() {
        TabooIsles x = Check.isles(TWO);
        due("count", 9, x.count(7));
        due("9 in one", 1, x.pay(0, 9, 0, -1));
        due("10 in two", 2, x.pay(0, 10, 0, -1));
        due("the first of 10", 9, x.pay(0, 10, 0, 0));
    }

    static void promise10HandIsTheGreatestPart() {
        TabooIsles x = Check.isles(TWO);
        for (int hand = 1; hand <= 20; hand++) {
            due("hand", true, x.hand(hand));
            due("count", hand, x.count(7));
            due(hand + " in one", 1, x.pay(0, hand, 0, -1));
            due(hand + " and 1 in two", 2, x.pay(0, hand + 1, 0, -1));
            due("twice in two", 2, x.pay(0, 2 * hand, 0, -1));
            due("the second", hand, x.pay(0, 2 * hand, 0, 1));
            due("ways of one", 1, x.ways(0, hand, 0, 1));
            due("no ways of one", 0, x.ways(0, hand + 1, 0, 1));
        }
    }

    static void promise10HandRefusedChangesNothing() {
        refused(x -> {
            for (int hand : new int[] {0, -1, 21, 22, 265, LEAST, MOST}) {
                due("hand " + hand, false, x.hand(hand));
            }
        });
        TabooIsles x = new TabooIsles();
        due("0", false, x.hand(0));
        due("21", false, x.hand(21));
        due("9 as it was", 9, x.count(7));
    }
}

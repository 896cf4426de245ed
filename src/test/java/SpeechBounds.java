/** Promises 33 and 34: what a number is SPOKEN as, and CARRIED as. */
final class SpeechBounds extends Bounds {
    private SpeechBounds() {
    }

    // ---- 33

    static void promise33SpokenOnIslesThatAreThere() {
        isles((x, isle) -> x.spoken(isle, 0) != -1);
    }

    static void promise33SpokenOf0To999() {
        TabooIsles x = Check.isles(TWO);
        bounds("number", 0, 999, number -> x.spoken(1, number) == number && number >= 0);
        due("-1", -1, x.spoken(1, -1));
        due("1000", -1, x.spoken(1, 1000));
    }

    static void promise33SpokenDownTo0() {
        TabooIsles x = withCustom("y:1");
        for (int number : new int[] {0, 1, 2, 500, 998, 999}) {
            due("all are forbidden", 0, x.spoken(2, number));
        }
        x = withCustom("y:n>1?1");
        due("999 as 1", 1, x.spoken(2, 999));
        due("1", 1, x.spoken(2, 1));
        x = withCustom("y:n>998?1");
        due("999 as 998", 998, x.spoken(2, 999));
    }

    static void promise33SpokenAsTheGreatestThatIsNoMore() {
        TabooIsles x = Check.isles("7,1,99;ab1");
        int[] isles = {0, 0, 0, 1, 1, 1, 2, 2, 2};
        int[] numbers = {6, 7, 8, 0, 1, 2, 98, 99, 100};
        int[] want = {6, 6, 8, 0, 0, 2, 98, 98, 100};
        for (int k = 0; k < isles.length; k++) {
            due(numbers[k] + " on " + isles[k], want[k], x.spoken(isles[k], numbers[k]));
        }
    }

    static void promise33SpokenRefusedChangesNothing() {
        refused(x -> {
            due("isle -1", -1, x.spoken(-1, 5));
            due("isle 6", -1, x.spoken(6, 5));
            due("number -1", -1, x.spoken(0, -1));
            due("number 1000", -1, x.spoken(0, 1000));
            due("least", -1, x.spoken(0, LEAST));
            due("most", -1, x.spoken(0, MOST));
        });
    }

    // ---- 34

    static void promise34CarriedNeedsIsles() {
        due("without isles", -1, new TabooIsles().carried(5, 0, 1));
        due("with isles", 5, Check.isles(TWO).carried(5, 0, 1));
    }

    static void promise34CarriedOf0To999() {
        TabooIsles x = Check.isles(TWO);
        bounds("number", 0, 999, number -> number >= 0 && x.carried(number, 1, 1) == number);
        due("-1", -1, x.carried(-1, 1, 1));
        due("1000", -1, x.carried(1000, 1, 1));
    }

    static void promise34CarriedAlong1To8Isles() {
        TabooIsles x = Check.isles(TWO);
        bounds("many", 1, 8, many -> x.carried(5, 0, many) == 5);
        bounds("many", 1, 8, many -> x.carried(5, 1, many) == 5);
        due("0", -1, x.carried(5, 0, 0));
        due("9", -1, x.carried(5, 0, 9));
    }

    static void promise34CarriedAlongIslesThatAreThere() {
        TabooIsles x = Check.isles(SIX);
        bounds("isle", 0, 5, isle -> x.carried(5, isle, 1) == 5);
        int place = 1;
        for (int many = 1; many <= 8; many++) {
            due("5 at place " + many, 5, x.carried(5, 5 * place, many));
            due("6 at place " + many, -1, x.carried(5, 6 * place, many));
            due("9 at place " + many, -1, x.carried(5, 9 * place, many));
            due("5 at place " + many + " of 8", 5, x.carried(5, 5 * place, 8));
            due("6 at place " + many + " of 8", -1, x.carried(5, 6 * place, 8));
            place *= 10;
        }
    }

    static void promise34CarriedAlongNoMoreDigitsThanTold() {
        TabooIsles x = Check.isles(SIX);
        int row = 1;
        for (int many = 1; many <= 8; many++) {
            due("as many digits", 5, x.carried(5, row, many));
            due("one more digit", -1, x.carried(5, row * 10, many));
            due("one digit fewer", 5, x.carried(5, row / 10, many));
            row = row * 10 + 1;
        }
        due("nine digits", -1, x.carried(5, 111111111, 8));
        due("ten digits", -1, x.carried(5, 1000000000, 8));
        due("55555555", 5, x.carried(5, 55555555, 8));
        due("55555556", -1, x.carried(5, 55555556, 8));
        due("most", -1, x.carried(5, MOST, 8));
        due("-1", -1, x.carried(5, -1, 8));
        due("least", -1, x.carried(5, LEAST, 8));
    }

    static void promise34CarriedFromTheHighestDigit() {
        TabooIsles x = Check.isles("7,6,5;ab1");
        int[] rows = {0, 1, 2, 1, 10, 12, 210, 120, 12, 0, 2, 20};
        int[] many = {1, 1, 1, 2, 2, 3, 3, 3, 2, 2, 3, 3};
        int[] want = {6, 7, 7, 5, 6, 4, 6, 6, 7, 6, 6, 6};
        for (int k = 0; k < rows.length; k++) {
            due("7 along " + rows[k] + " of " + many[k], want[k], x.carried(7, rows[k], many[k]));
        }
    }

    static void promise34CarriedDownTo0() {
        TabooIsles x = Check.isles("1,2,3,4,5,6;ab1");
        due("6 along f to a", 0, x.carried(6, 543210, 6));
        due("6 along a to f", 5, x.carried(6, 12345, 6));
        due("the eighth", 0, x.carried(6, 55543210, 8));
    }

    static void promise34CarriedRefusedChangesNothing() {
        refused(x -> {
            due("number -1", -1, x.carried(-1, 0, 1));
            due("number 1000", -1, x.carried(1000, 0, 1));
            due("row -1", -1, x.carried(5, -1, 1));
            due("row 10 of 1", -1, x.carried(5, 10, 1));
            due("isle 6", -1, x.carried(5, 6, 1));
            due("many 0", -1, x.carried(5, 0, 0));
            due("many 9", -1, x.carried(5, 0, 9));
            due("many least", -1, x.carried(5, 0, LEAST));
        });
    }
}

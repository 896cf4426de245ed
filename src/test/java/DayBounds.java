/** Promises 25 to 32, 38 and 41 to 43: DAYS, CHANGES, DROWNINGS, SAID, the GAME, IMAGES. */
final class DayBounds extends Bounds {
    private static final long[] SEEDS = {0, 1, -1, 2, 5, 77, Long.MAX_VALUE, Long.MIN_VALUE, Long.MAX_VALUE - 1,
        Long.MIN_VALUE + 1, 1L << 32, 1L << 33, -1L << 33, 0x5555555555555555L, 0xAAAAAAAAAAAAAAAAL};

    /** DROWNINGS as told: what is drawn of a seed. */
    private static final class Draws {
        private long x;
        private int least = MOST;
        private int most = -1;

        Draws(long seed) {
            x = seed;
        }

        int draw(int m) {
            x = x * 6364136223846793005L + 1442695040888963407L;
            int drawn = (int) Long.remainderUnsigned(x >>> 33, m);
            least = Math.min(least, drawn);
            most = Math.max(most, drawn);
            return drawn;
        }
    }

    private DayBounds() {
    }

    private static void count(TabooIsles x, int today, int changes, int said) {
        due("today", today, x.count(3));
        due("changes", changes, x.count(4));
        due("said", said, x.count(5));
    }

    // ---- 25

    static void promise25TodayOf0To99() {
        TabooIsles x = new TabooIsles();
        bounds("day", 0, 99, day -> x.today(day) && x.count(3) == day);
        TabooIsles y = Check.isles(TWO);
        bounds("day", 0, 99, day -> y.today(day) && y.count(3) == day);
    }

    static void promise25TodayIsAskedWithoutADay() {
        TabooIsles x = Check.isles("5,0;ab1");
        x.change(0, 99, 6);
        x.today(98);
        due("98: 5", 4, x.spoken(0, 5));
        due("98: 6", 6, x.spoken(0, 6));
        x.today(99);
        due("99: 5", 5, x.spoken(0, 5));
        due("99: 6", 5, x.spoken(0, 6));
        x.today(0);
        due("0: 5", 4, x.spoken(0, 5));
    }

    /** By a CUSTOM of c 7 is forbidden on day 50 alone. */
    private static void sevenOnDay50(int today, boolean forbidden) {
        TabooIsles x = withCustom("y:d=50&n=7?1");
        x.today(today);
        String of = " on day " + today;
        due("pay" + of, forbidden ? 2 : 1, x.pay(2, 7, 1, -1));
        due("ways" + of, forbidden ? 0 : 1, x.ways(2, 7, 2, 1));
        due("cant" + of, forbidden ? 1 : 0, x.cant(2, 2, -1));
        due("family" + of, forbidden ? 2 : 1, x.family(2, 7, -1));
        due("splits" + of, forbidden ? 13 : 15, x.splits(2, 7));
        due("date" + of, forbidden ? 29 : 30, x.date(2, -1));
        due("debt" + of, forbidden ? 8 : 7, x.debt(2, 7, 0));
        due("bit" + of, forbidden ? 1 : 0, x.bit(2, 6, -1));
        due("likely" + of, forbidden ? 1000000 : -1, x.likely(2, 6, 0));
        due("game" + of, forbidden ? 0 : 1, x.game(2, 1, 7, 6, 0));
        due("safe" + of, 1, x.safe(2, 0));
        due("spoken" + of, forbidden ? 6 : 7, x.spoken(2, 7));
        due("carried" + of, forbidden ? 6 : 7, x.carried(7, 2, 1));
        due("near" + of, forbidden ? 6 : 7, x.near(2, 7, 2));
        due("joint" + of, forbidden ? 2 : 1, x.joint(2, 0, 7, 1));
        due("joint, the other way" + of, forbidden ? 2 : 1, x.joint(0, 2, 7, 1));
        due("worst" + of, forbidden ? 2 : 1, x.worst(2, 2, 1));
        due("said" + of, 1, x.say(2, 7));
        due("breaches" + of, forbidden ? 1 : 0, x.breach(-1));
        due("fines" + of, forbidden ? 7 : 0, x.fines(2));
        due("owes" + of, forbidden ? 2 : -1, x.owes());
    }

    static void promise25TodayIsTheDayOfACustom() {
        sevenOnDay50(0, false);
        sevenOnDay50(49, false);
        sevenOnDay50(50, true);
        sevenOnDay50(51, false);
        sevenOnDay50(99, false);
    }

    static void promise25TodayRefusedChangesNothing() {
        refused(x -> {
            for (int day : new int[] {-1, -2, 100, 101, 256, LEAST, MOST}) {
                due("day " + day, false, x.today(day));
            }
        });
        unchanged(TabooIsles::new, x -> due("100", false, x.today(100)));
    }

    // ---- 26

    static void promise26ChangeOnIslesThatAreThere() {
        isles((x, isle) -> x.change(isle, 0, 1) == 1);
    }

    static void promise26ChangeForDays0To99() {
        bounds("day", 0, 99, day -> Check.isles(TWO).change(0, day, 1) == 1);
        due("-1", -1, Check.isles(TWO).change(0, -1, 1));
        due("100", -1, Check.isles(TWO).change(0, 100, 1));
    }

    static void promise26ChangeToTaboos0To99() {
        bounds("taboo", 0, 99, taboo -> {
            TabooIsles x = Check.isles("5,6;ab1");
            return x.change(0, 0, taboo) == 1 && x.taboo(0, 0) == taboo;
        });
        due("-1", -1, Check.isles(TWO).change(0, 0, -1));
        due("100", -1, Check.isles(TWO).change(0, 0, 100));
    }

    static void promise26ChangesOf20Not21() {
        TabooIsles x = Check.isles("5,6;ab1");
        for (int k = 1; k <= 20; k++) {
            due("change", k, x.change(k % 2, 99, k));
            due("how many", k, x.count(4));
        }
        due("a 21st", -1, x.change(0, 99, 50));
        due("a 21st", -1, x.change(1, 0, 50));
        due("20", 20, x.count(4));
        due("taboo of a", 20, x.taboo(0, 99));
        due("taboo of b", 19, x.taboo(1, 99));
        due("taboo of b ahead", 6, x.taboo(1, 98));
    }

    static void promise26ChangeRefusedChangesNothing() {
        refused(x -> {
            due("isle -1", -1, x.change(-1, 0, 1));
            due("isle 6", -1, x.change(6, 0, 1));
            due("day -1", -1, x.change(0, -1, 1));
            due("day 100", -1, x.change(0, 100, 1));
            due("taboo -1", -1, x.change(0, 0, -1));
            due("taboo 100", -1, x.change(0, 0, 100));
            due("least", -1, x.change(0, LEAST, LEAST));
            due("most", -1, x.change(0, MOST, MOST));
        });
        unchanged(Bounds::full, x -> due("a 21st", -1, x.change(0, 0, 1)));
        unchanged(TabooIsles::new, x -> due("without isles", -1, x.change(0, 0, 1)));
    }

    // ---- 27

    static void promise27DrownNeedsIsles() {
        TabooIsles x = new TabooIsles();
        due("without isles", -1, x.drown(1, 0, 0));
        due("today", 0, x.count(3));
        due("with isles", 0, Check.isles(TWO).drown(1, 0, 0));
        due("with six", 6, Check.isles(SIX).drown(1, 100, 0));
    }

    static void promise27DrownOf1To99Days() {
        bounds("days", 1, 99, days -> {
            TabooIsles x = Check.isles(TWO);
            return x.drown(days, 0, 7) == 0 && x.count(3) == days;
        });
        due("0", -1, Check.isles(TWO).drown(0, 0, 7));
        due("100", -1, Check.isles(TWO).drown(100, 0, 7));
    }

    static void promise27DrownByRisk0To100() {
        bounds("risk", 0, 100, risk -> Check.isles(TWO).drown(1, risk, 7) != -1);
        due("-1", -1, Check.isles(TWO).drown(1, -1, 7));
        due("101", -1, Check.isles(TWO).drown(1, 101, 7));
        for (long seed : SEEDS) {
            due("never by 0", 0, Check.isles(SIX).drown(99, 0, seed));
            due("always by 100", 6, Check.isles(SIX).drown(1, 100, seed));
        }
    }

    static void promise27DrownBelowRiskNotAtIt() {
        int least = MOST;
        int most = -1;
        for (long seed = 0; seed < 400; seed++) {
            Draws draws = new Draws(seed);
            int first = draws.draw(100);
            int taboo = 1 + draws.draw(12);
            least = Math.min(least, first);
            most = Math.max(most, first);
            TabooIsles at = Check.isles("50,0;ab1");
            at.drown(1, first, seed);
            due("at the risk, seed " + seed, 50, at.taboo(0, 1));
            TabooIsles above = Check.isles("50,0;ab1");
            above.drown(1, first + 1, seed);
            due("below the risk, seed " + seed, taboo, above.taboo(0, 1));
        }
        due("a draw of 100 is 0 at least", 0, least);
        due("a draw of 100 is 99 at most", 99, most);
    }

    static void promise27DrownToTaboos1To12() {
        int least = MOST;
        int most = -1;
        for (long seed = 0; seed < 60; seed++) {
            Draws draws = new Draws(seed);
            TabooIsles x = Check.isles(SIX);
            due("six", 6, x.drown(1, 100, seed));
            for (int isle = 0; isle < 6; isle++) {
                draws.draw(100);
                int taboo = 1 + draws.draw(12);
                due("taboo drawn of seed " + seed, taboo, x.taboo(isle, 1));
                least = Math.min(least, taboo);
                most = Math.max(most, taboo);
            }
        }
        due("1 is drawn", 1, least);
        due("12 is drawn", 12, most);
    }

    static void promise27DrownOf64BitsThatGoRound() {
        for (long seed : SEEDS) {
            for (int risk : new int[] {1, 30, 99, 100}) {
                Draws draws = new Draws(seed);
                TabooIsles x = Check.isles("90,91,92;ab1");
                int[] taboos = {90, 91, 92};
                int came = 0;
                for (int day = 1; day <= 3; day++) {
                    for (int isle = 0; isle < 3; isle++) {
                        if (draws.draw(100) < risk) {
                            taboos[isle] = 1 + draws.draw(12);
                            came++;
                        }
                    }
                }
                due("changes of seed " + seed, came, x.drown(3, risk, seed));
                for (int isle = 0; isle < 3; isle++) {
                    due("taboo of seed " + seed, taboos[isle], x.taboo(isle, 3));
                }
            }
        }
    }

    static void promise27DrownOfKnownSeeds() {
        // draws of 100 and, of the next x, 1 and a draw of 12, reckoned by hand with long numbers
        // of 0: 7 (1), 24, 37; of 1: 74 (10), 53 (1), 96; of -1: 88 (12), 43 (2), 77 (3), where x is above 63 bits
        long[] seeds = {0, 0, 1, 1, -1, -1};
        int[] risks = {7, 8, 74, 75, 88, 89};
        int[] came = {0, 1, 1, 1, 1, 2};
        int[] onA = {50, 1, 50, 10, 50, 12};
        int[] onB = {51, 51, 1, 51, 2, 3};
        for (int k = 0; k < seeds.length; k++) {
            TabooIsles x = Check.isles("50,51;ab1");
            String of = " of seed " + seeds[k] + " by risk " + risks[k];
            due("changes" + of, came[k], x.drown(1, risks[k], seeds[k]));
            due("a" + of, onA[k], x.taboo(0, 1));
            due("b" + of, onB[k], x.taboo(1, 1));
        }
    }

    static void promise27DrownChangesForTheDayItself() {
        TabooIsles x = Check.isles("50,51;ab1");
        due("first day", 2, x.drown(1, 100, 3));
        due("today", 1, x.count(3));
        due("day 0 as it was", 50, x.taboo(0, 0));
        due("day 1", true, x.taboo(0, 1) <= 12);
        due("later days", x.taboo(0, 1), x.taboo(0, 99));
        x = Check.isles("50,51;ab1");
        x.today(97);
        x.drown(1, 100, 3);
        due("97 as it was", 50, x.taboo(0, 97));
        due("98", true, x.taboo(0, 98) <= 12);
    }

    static void promise27DrownAt99Stays99() {
        TabooIsles x = Check.isles("50,51;ab1");
        x.today(98);
        due("one day", 2, x.drown(1, 100, 3));
        due("99", 99, x.count(3));
        due("two days", 4, x.drown(2, 100, 4));
        due("99 stays", 99, x.count(3));
        due("98 as it was", 50, x.taboo(0, 98));
        Draws draws = new Draws(4);
        int last = 0;
        for (int k = 0; k < 4; k++) {
            draws.draw(100);
            int taboo = 1 + draws.draw(12);
            last = k == 2 ? taboo : last;
        }
        due("that told last for 99", last, x.taboo(0, 99));
        due("99 days", 0, x.drown(99, 0, 4));
        due("99 stays", 99, x.count(3));
        x.today(0);
        due("99 days from 0", 0, x.drown(99, 0, 4));
        due("99", 99, x.count(3));
        x.today(1);
        due("99 days from 1", 0, x.drown(99, 0, 4));
        due("99", 99, x.count(3));
    }

    static void promise27DrownUpTo20Changes() {
        TabooIsles x = Check.isles(SIX);
        due("three days", 18, x.drown(3, 100, 9));
        due("two more", 2, x.drown(1, 100, 9));
        due("20", 20, x.count(4));
        due("today", 4, x.count(3));
        due("a changed", true, x.taboo(0, 4) >= 1);
        due("none more", 0, x.drown(5, 100, 9));
        due("days go by", 9, x.count(3));
        x = Check.isles(SIX);
        due("all at once", 20, x.drown(99, 100, 9));
        due("99", 99, x.count(3));
    }

    static void promise27DrownWithRoomForOneChange() {
        TabooIsles x = Check.isles("0,0,0,0,0,78;ab1");
        for (int k = 1; k <= 19; k++) {
            x.change(5, 0, 77);
        }
        Draws draws = new Draws(11);
        draws.draw(100);
        due("one more", 1, x.drown(1, 100, 11));
        due("on a", 1 + draws.draw(12), x.taboo(0, 1));
        due("not on b", 0, x.taboo(1, 1));
        due("nor on f", 77, x.taboo(5, 1));
        due("today", 1, x.count(3));
        due("20", 20, x.count(4));
        due("no 21st", -1, x.change(0, 0, 1));
    }

    static void promise27DrownRefusedChangesNothing() {
        refused(x -> {
            due("days 0", -1, x.drown(0, 100, 1));
            due("days -1", -1, x.drown(-1, 100, 1));
            due("days 100", -1, x.drown(100, 100, 1));
            due("risk -1", -1, x.drown(1, -1, 1));
            due("risk 101", -1, x.drown(1, 101, 1));
            due("least", -1, x.drown(LEAST, LEAST, Long.MIN_VALUE));
            due("most", -1, x.drown(MOST, MOST, Long.MAX_VALUE));
        });
        unchanged(TabooIsles::new, x -> due("without isles", -1, x.drown(1, 100, 1)));
    }

    // ---- 28

    static void promise28SayOnIslesThatAreThere() {
        isles((x, isle) -> x.say(isle, 0) == 1);
    }

    static void promise28SayOfNumbers0To999() {
        bounds("number", 0, 999, number -> Check.isles(TWO).say(0, number) == 1);
        due("-1", -1, Check.isles(TWO).say(0, -1));
        due("1000", -1, Check.isles(TWO).say(0, 1000));
    }

    static void promise28SaidOf40Not41() {
        TabooIsles x = Check.isles("5,6;ab1");
        for (int k = 1; k <= 40; k++) {
            due("said", k, x.say(1, k == 40 ? 6 : 7));
            due("how many", k, x.count(5));
        }
        due("a 41st", -1, x.say(0, 5));
        due("a 41st", -1, x.say(1, 6));
        due("40", 40, x.count(5));
        due("the 40th is a breach", 39, x.breach(0));
        due("the only one", 1, x.breach(-1));
        due("fines of a", 0, x.fines(0));
        due("fines of b", 6, x.fines(1));
    }

    static void promise28SayRefusedChangesNothing() {
        refused(x -> {
            due("isle -1", -1, x.say(-1, 7));
            due("isle 6", -1, x.say(6, 7));
            due("number -1", -1, x.say(0, -1));
            due("number 1000", -1, x.say(0, 1000));
            due("least", -1, x.say(0, LEAST));
            due("most", -1, x.say(0, MOST));
        });
        unchanged(Bounds::full, x -> due("a 41st", -1, x.say(0, 7)));
        unchanged(TabooIsles::new, x -> due("without isles", -1, x.say(0, 7)));
    }

    // ---- 29

    static void promise29BreachOfNoneSaid() {
        TabooIsles x = Check.isles("5,6;ab1");
        due("none", 0, x.breach(-1));
        due("no first", -1, x.breach(0));
        x.say(0, 6);
        x.say(1, 5);
        x.say(0, 0);
        due("none of three", 0, x.breach(-1));
        due("no first", -1, x.breach(0));
        due("without isles", -1, new TabooIsles().breach(-1));
        due("without isles", -1, new TabooIsles().breach(0));
    }

    static void promise29BreachOfAll40() {
        TabooIsles x = Check.isles("5,6;ab1");
        for (int k = 1; k <= 40; k++) {
            x.say(k % 2, 5 + k % 2);
            due("breaches", k, x.breach(-1));
            due("the last", k - 1, x.breach(k - 1));
            due("no more", -1, x.breach(k));
        }
        bounds("the i-th", -1, 39, i -> x.breach(i) == (i == -1 ? 40 : i));
    }

    static void promise29BreachWhenItWasSaid() {
        TabooIsles x = Check.isles("5,6;ab1");
        x.change(0, 10, 7);
        int[] days = {0, 9, 10, 11, 99};
        for (int day : days) {
            x.today(day);
            x.say(0, 5);
            x.say(0, 7);
        }
        int[] places = {0, 2, 5, 7, 9};
        due("five", 5, x.breach(-1));
        for (int k = 0; k < 5; k++) {
            due("place", places[k], x.breach(k));
        }
        due("no sixth", -1, x.breach(5));
        x.change(0, 99, 5);
        due("by changes told now", 8, x.breach(4));
        x.change(0, 0, 0);
        due("the first two are none now", 3, x.breach(-1));
    }

    static void promise29BreachByTheDayOfACustom() {
        TabooIsles x = withCustom("y:d=50&n=7?1");
        for (int day : new int[] {49, 50, 51}) {
            x.today(day);
            x.say(2, 7);
        }
        for (int day : new int[] {0, 50, 99}) {
            x.today(day);
            due("one", 1, x.breach(-1));
            due("that of day 50", 1, x.breach(0));
            due("its fine", 7, x.fines(2));
        }
    }

    static void promise29BreachRefusedChangesNothing() {
        refused(x -> {
            due("i -2", -1, x.breach(-2));
            due("i 40", -1, x.breach(40));
            due("i least", -1, x.breach(LEAST));
            due("i most", -1, x.breach(MOST));
        });
    }

    // ---- 30

    static void promise30FinesOnIslesThatAreThere() {
        isles((x, isle) -> x.fines(isle) != -1);
    }

    static void promise30FinesOfNone() {
        TabooIsles x = Check.isles("5,6;ab1");
        due("nothing said", 0, x.fines(0));
        x.say(0, 6);
        x.say(1, 5);
        x.say(0, 0);
        due("no breach of a", 0, x.fines(0));
        due("no breach of b", 0, x.fines(1));
    }

    static void promise30FinesOfAll40() {
        TabooIsles x = withCustom("y:n=999?1");
        for (int k = 1; k <= 40; k++) {
            x.say(2, 999);
            due("together", 999 * k, x.fines(2));
        }
        due("of another", 0, x.fines(0));
    }

    static void promise30FinesOfTheIsleAlone() {
        TabooIsles x = Check.isles("5,6,7;ab1");
        x.say(0, 5);
        x.say(1, 6);
        x.say(2, 7);
        x.say(2, 7);
        x.say(2, 6);
        due("a", 5, x.fines(0));
        due("b", 6, x.fines(1));
        due("c", 14, x.fines(2));
    }

    static void promise30FinesRefusedChangesNothing() {
        refused(x -> {
            for (int isle : new int[] {-1, 6, 7, LEAST, MOST}) {
                due("isle " + isle, -1, x.fines(isle));
            }
        });
    }

    // ---- 31

    static void promise31SafeOnIslesThatAreThere() {
        isles((x, isle) -> x.safe(isle, 0) != -1);
    }

    static void promise31SafeOf0To99DaysOn() {
        TabooIsles x = Check.isles(TWO);
        bounds("days on", 0, 99, n -> x.safe(1, n) == 1);
        x.today(99);
        bounds("days on", 0, 99, n -> x.safe(1, n) == 1);
    }

    static void promise31SafeFrom1To999() {
        TabooIsles x = withCustom("y:n<999?1");
        due("999", 999, x.safe(2, 0));
        due("none to 999", -1, withCustom("y:1").safe(2, 0));
        due("1, not 0", 1, Check.isles(TWO).safe(0, 99));
        due("2", 2, Check.isles("1,0;ab1").safe(0, 99));
    }

    static void promise31SafeFromTodayToTheLastDay() {
        TabooIsles x = Check.isles("0,0;ab1");
        x.change(0, 9, 1);
        x.change(0, 10, 2);
        x.change(0, 11, 3);
        x.change(0, 12, 0);
        int[] today = {0, 0, 0, 0, 0, 9, 10, 11, 12, 10};
        int[] on = {8, 9, 10, 11, 99, 0, 0, 0, 99, 1};
        int[] want = {1, 2, 3, 4, 4, 2, 1, 1, 1, 1};
        for (int k = 0; k < today.length; k++) {
            x.today(today[k]);
            due("from " + today[k] + ", " + on[k] + " on", want[k], x.safe(0, on[k]));
        }
    }

    static void promise31SafeWithoutDaysAbove99() {
        TabooIsles x = Check.isles("0,0,0;ab1");
        x.change(0, 99, 1);
        x.today(0);
        due("98 on", 1, x.safe(0, 98));
        due("99 on", 2, x.safe(0, 99));
        x.today(50);
        due("to 98", 1, x.safe(0, 48));
        due("to 99", 2, x.safe(0, 49));
        due("behind 99", 2, x.safe(0, 50));
        x.today(99);
        due("99 alone", 2, x.safe(0, 0));
        due("99 alone", 2, x.safe(0, 99));
        Check.customs(x, 2, "y:d>99?1");
        due("no day is above 99", 1, x.safe(2, 99));
    }

    static void promise31SafeRefusedChangesNothing() {
        refused(x -> {
            due("isle -1", -1, x.safe(-1, 0));
            due("isle 6", -1, x.safe(6, 0));
            due("n -1", -1, x.safe(0, -1));
            due("n 100", -1, x.safe(0, 100));
            due("n least", -1, x.safe(0, LEAST));
            due("n most", -1, x.safe(0, MOST));
        });
    }

    // ---- 32

    static void promise32GameOnIslesThatAreThere() {
        isles((x, isle) -> x.game(isle, 1, 1, 0, 0) == 1);
    }

    static void promise32GameOfAReachOf1To9() {
        TabooIsles x = Check.isles(TWO);
        bounds("reach", 1, 9, reach -> x.game(1, reach, 200, 0, 0) != HIDDEN);
        for (int reach = 1; reach <= 9; reach++) {
            due("as far as it goes", reach, x.game(0, reach, reach, 0, 1));
            due("one farther is lost", 0, x.game(0, reach, reach + 1, 0, 0));
            due("no move", -1, x.game(0, reach, reach + 1, 0, 1));
            due("two farther", 1, x.game(0, reach, reach + 2, 0, 1));
        }
    }

    static void promise32GameOfAGoalOf1To200() {
        TabooIsles x = Check.isles(TWO);
        bounds("goal", 1, 200, goal -> x.game(1, 9, goal, 0, 0) == (goal % 10 == 0 ? 0 : 1));
        bounds("goal", 1, 200, goal -> goal > 0 && goal < 201 && x.game(1, 9, goal, goal - 1, 1) == goal);
    }

    static void promise32GameFrom0ToBelowTheGoal() {
        TabooIsles x = Check.isles(TWO);
        bounds("of goal 1, from", 0, 0, from -> x.game(1, 9, 1, from, 0) != HIDDEN);
        bounds("of goal 9, from", 0, 8, from -> x.game(1, 9, 9, from, 0) == 1);
        bounds("of goal 200, from", 0, 199, from -> x.game(1, 9, 200, from, 0) == (from % 10 == 0 ? 0 : 1));
        due("the goal itself", HIDDEN, x.game(1, 9, 200, 200, 0));
    }

    static void promise32GameOfTwoQuestions() {
        TabooIsles x = Check.isles(TWO);
        bounds("what", 0, 1, what -> x.game(1, 3, 9, 0, what) != HIDDEN);
    }

    static void promise32GameWhereTheGoalIsForbidden() {
        TabooIsles x = Check.isles("9,0,1;ab1");
        due("nobody says 9: from 8 there is nothing", 0, x.game(0, 1, 9, 8, 0));
        due("no move", -1, x.game(0, 1, 9, 8, 1));
        due("from 7: 8 is said last", 8, x.game(0, 1, 9, 7, 1));
        due("by 3 from 5: 8", 8, x.game(0, 3, 9, 5, 1));
        due("from 4: lost", 0, x.game(0, 3, 9, 4, 0));
        due("goal 1", 0, x.game(2, 9, 1, 0, 0));
        due("goal 1", -1, x.game(2, 9, 1, 0, 1));
        due("goal 2 over 1", 2, x.game(2, 2, 2, 0, 1));
        due("not with reach 1", 0, x.game(2, 1, 2, 0, 0));
    }

    static void promise32GameWhereNothingCanBeSaid() {
        TabooIsles x = withCustom("y:1");
        for (int from : new int[] {0, 1, 100, 199}) {
            due("lost", 0, x.game(2, 9, 200, from, 0));
            due("no move", -1, x.game(2, 9, 200, from, 1));
        }
        x = withCustom("y:n>5&n<15?1");
        due("5 is said last", 5, x.game(2, 9, 200, 4, 1));
        due("from 5 nothing", 0, x.game(2, 9, 200, 5, 0));
        due("from 6 it is 15", true, x.game(2, 9, 15, 6, 1) == 15);
        due("from 5, reach 9", 0, x.game(2, 9, 15, 5, 0));
    }

    static void promise32GameFromAForbiddenNumber() {
        TabooIsles x = Check.isles("7,0;ab1");
        due("from 7", 8, x.game(0, 1, 8, 7, 1));
        due("from 6 it can't go", 0, x.game(0, 1, 8, 6, 0));
    }

    static void promise32GameRefusedChangesNothing() {
        refused(x -> {
            due("isle -1", HIDDEN, x.game(-1, 3, 9, 0, 0));
            due("isle 6", HIDDEN, x.game(6, 3, 9, 0, 0));
            due("reach 0", HIDDEN, x.game(0, 0, 9, 0, 0));
            due("reach 10", HIDDEN, x.game(0, 10, 9, 0, 0));
            due("goal 0", HIDDEN, x.game(0, 3, 0, 0, 0));
            due("goal 201", HIDDEN, x.game(0, 3, 201, 0, 0));
            due("from -1", HIDDEN, x.game(0, 3, 9, -1, 0));
            due("from 9", HIDDEN, x.game(0, 3, 9, 9, 0));
            due("what -1", HIDDEN, x.game(0, 3, 9, 0, -1));
            due("what 2", HIDDEN, x.game(0, 3, 9, 0, 2));
            due("most", HIDDEN, x.game(0, MOST, MOST, MOST, MOST));
        });
    }

    // ---- 38

    static void promise38OwesNobody() {
        due("no isles", -1, new TabooIsles().owes());
        TabooIsles x = Check.isles("5,6;ab1");
        due("nothing said", -1, x.owes());
        x.say(0, 6);
        x.say(1, 0);
        due("no breach", -1, x.owes());
    }

    static void promise38OwesTheLeastFine() {
        TabooIsles x = Check.isles("0,0,0,0,0,1;ab1");
        x.say(5, 1);
        due("f owes 1", 5, x.owes());
    }

    static void promise38OwesOfSeveralTheLowest() {
        TabooIsles x = Check.isles("7,7,7,7,7,7;ab1");
        for (int isle = 5; isle >= 0; isle--) {
            x.say(isle, 7);
            due("the lowest", isle, x.owes());
        }
        x.say(5, 7);
        due("the greatest", 5, x.owes());
        x.say(4, 7);
        due("the lower of two", 4, x.owes());
    }

    static void promise38OwesChangesNothing() {
        refused(x -> {
            x.owes();
            x.owes();
        });
    }

    // ---- 41

    static void promise41ImageNeedsIsles() {
        TabooIsles x = new TabooIsles();
        x.today(9);
        due("without isles", -1, x.image());
        due("no image came", -1, x.back());
        Check.tell(x, 0, TWO);
        due("nor behind isles", -1, x.back());
        due("with isles", 0, x.image());
        due("back", 0, x.back());
        unchanged(TabooIsles::new, y -> due("without isles", -1, y.image()));
    }

    static void promise41ImageOfToday0To99() {
        TabooIsles x = Check.isles(TWO);
        for (int day = 0; day <= 99; day++) {
            x.today(day);
            due("image", day, x.image());
            x.today(99 - day);
            due("back", day, x.back());
            due("today", day, x.count(3));
        }
    }

    static void promise41ImageInsteadOfTheOneAhead() {
        TabooIsles x = Check.isles("5,6;ab1");
        x.today(3);
        x.change(0, 3, 9);
        x.say(0, 9);
        due("the first", 3, x.image());
        x.today(4);
        x.change(0, 4, 8);
        x.say(0, 8);
        due("the second", 4, x.image());
        x.today(0);
        due("back to the second", 4, x.back());
        count(x, 4, 2, 2);
        due("again", 4, x.back());
        count(x, 4, 2, 2);
    }

    // ---- 42

    static void promise42BackWithoutAnImage() {
        due("new", -1, new TabooIsles().back());
        TabooIsles x = Check.isles("5,6;ab1");
        due("none yet", -1, x.back());
        x.today(7);
        x.change(0, 0, 1);
        x.say(0, 1);
        due("none yet", -1, x.back());
        count(x, 7, 1, 1);
        due("image", 7, x.image());
        due("other isles", 2, Check.tell(x, 0, "5,6;ab1"));
        due("none of these isles", -1, x.back());
        count(x, 0, 0, 0);
    }

    static void promise42BackWithoutAnImageChangesNothing() {
        unchanged(() -> {
            TabooIsles x = full();
            x.text(0);
            x.today(4);
            x.change(0, 3, 9);
            x.say(1, 9);
            return x;
        }, x -> due("no image of these", -1, x.back()));
        unchanged(TabooIsles::new, x -> due("no isles", -1, x.back()));
    }

    static void promise42BackFromAllToNothing() {
        TabooIsles x = Check.isles("5,6;ab1");
        due("image of nothing", 0, x.image());
        x.today(99);
        for (int k = 1; k <= 40; k++) {
            x.change(0, k % 3, k);
            x.say(0, 5);
        }
        count(x, 99, 20, 40);
        due("back", 0, x.back());
        count(x, 0, 0, 0);
        due("taboo as told", 5, x.taboo(0, 99));
        due("no breach", 0, x.breach(-1));
        due("nobody owes", -1, x.owes());
        for (int k = 1; k <= 20; k++) {
            due("room for 20", k, x.change(1, 0, k));
        }
        due("no 21st", -1, x.change(1, 0, 1));
        for (int k = 1; k <= 40; k++) {
            due("room for 40", k, x.say(1, 20));
        }
        due("no 41st", -1, x.say(1, 20));
        due("the fines", 800, x.fines(1));
        due("back again", 0, x.back());
        count(x, 0, 0, 0);
    }

    static void promise42BackFromNewToAll() {
        TabooIsles x = Check.isles("5,6;ab1");
        due("first image", 0, x.image());
        x.today(99);
        for (int k = 1; k <= 40; k++) {
            x.change(0, 99 - k % 3, k);
            x.say(0, 20 + k % 2);
        }
        due("image of all", 99, x.image());
        int taboo = x.taboo(0, 99);
        int breaches = x.breach(-1);
        x.today(0);
        due("back", 99, x.back());
        count(x, 99, 20, 40);
        due("its taboo", taboo, x.taboo(0, 99));
        due("its breaches", breaches, x.breach(-1));
        due("full", -1, x.change(0, 0, 1));
        due("full", -1, x.say(0, 1));
    }

    static void promise42BackBringsNothingElse() {
        TabooIsles x = Check.isles("5,6;ab1");
        Check.tell(x, 1, "y:n=30|n=31?1");
        x.image();
        x.hand(20);
        x.weight(30, 0);
        x.good();
        x.price(0, 0, 99);
        x.custom(1, 0);
        Check.tell(x, 1, "y:1");
        Check.tape(x, "abc");
        due("back", 0, x.back());
        int[] want = {2, 2, 3, 0, 0, 0, 1, 20};
        for (int what = 0; what < 8; what++) {
            due("count " + what, want[what], x.count(what));
        }
        due("the custom stays", 1, x.forbidden(1, 30, 0));
        due("the weight stays", 0, x.likely(1, 29, 0));
        due("the price stays", 0, x.deal(0, 0, 3, 0));
    }

    // ---- 43

    static void promise43CountOfEightQuestions() {
        bounds("what", 0, 7, what -> new TabooIsles().count(what) != HIDDEN);
        TabooIsles x = full();
        bounds("what", 0, 7, what -> x.count(what) != HIDDEN);
    }

    static void promise43CountOfNothing() {
        int[] want = {0, 0, 0, 0, 0, 0, 0, 9};
        TabooIsles x = new TabooIsles();
        for (int what = 0; what < 8; what++) {
            due("count " + what, want[what], x.count(what));
        }
    }

    static void promise43CountOfAll() {
        int[] want = {6, 4, 160, 99, 20, 40, 3, 20};
        TabooIsles x = full();
        for (int what = 0; what < 8; what++) {
            due("count " + what, want[what], x.count(what));
        }
    }

    static void promise43CountRefusedChangesNothing() {
        refused(x -> {
            for (int what : new int[] {-1, 8, 9, LEAST, MOST}) {
                due("what " + what, HIDDEN, x.count(what));
            }
        });
    }
}

/** Promise 9, what a CUSTOM is worth: numbers within 1,000,000, what / cuts, which CLAUSE it is. */
final class WorthBounds extends Bounds {
    private WorthBounds() {
    }

    /** None of these has an i or a d: it is the same on each DAY. */
    private static void worth(String custom, int number, boolean above0) {
        TabooIsles x = withCustom(custom);
        for (int day : new int[] {0, 1, 5, 99}) {
            due(custom + " of " + number + " on day " + day, above0 ? 1 : 0, x.forbidden(2, number, day));
        }
    }

    private static void holds(String condition) {
        worth("y:" + condition + "?1", 5, true);
        worth("y:!(" + condition + ")?1", 5, false);
    }

    private static void fails(String condition) {
        worth("y:" + condition + "?1", 5, false);
        worth("y:!(" + condition + ")?1", 5, true);
    }

    static void promise09WorthAbove0Forbids() {
        worth("y:0-1", 5, false);
        worth("y:0", 5, false);
        worth("y:1", 5, true);
        worth("y:n-5", 5, false);
        worth("y:n-5", 6, true);
        worth("y:n-5", 4, false);
        worth("y:n-998", 999, true);
        worth("y:1000*1000", 5, true);
        worth("y:[0-1000]*1000", 5, false);
    }

    static void promise09WorthStopsAtAMillion() {
        holds("999*1000+999=999*1001");
        holds("999*1001+1=1000*1000");
        holds("1000*1000=999*1001+1");
        holds("1000*1000+1=1000*1000");
        holds("9999+1000*1000=1000*1000");
        holds("9999*9999=1000*1000");
        holds("1001*999+9999-1=999*1001");
        holds("1000*1000-[0-1]=1000*1000");
        holds("[0-9999]*[0-9999]=1000*1000");
        holds("9999*9999*9999-1=999*1001");
        holds("1000*1000>1000*1000+1-1");
        fails("999*1001+1<1000*1000");
    }

    static void promise09WorthStopsAtAMillionBelow0() {
        holds("0-999*1001=[0-999]*1001");
        holds("0-999*1001-1=0-1000*1000");
        holds("0-999*1001-2=0-1000*1000");
        holds("0-1000*1000-1=0-1000*1000");
        holds("0-1000*1000-1+1=0-999*1001");
        holds("[0-9999]*9999=0-1000*1000");
        holds("9999*[0-9999]+1=0-999*1001");
        holds("[0-1000]*1000+[0-1]=0-1000*1000");
        holds("[0-9999]*9999*9999+1+1=1-999*1001");
        fails("0-1000*1000-1<0-1000*1000");
    }

    static void promise09WorthStopsBehindEachSign() {
        holds("1000*1000*1000/1000/1000=1");
        holds("9999*9999/1000=1000");
        holds("1000*1000+1000*1000-1000*1000=0");
        holds("1000*1000+[1000*1000-1000*1000]=1000*1000");
        holds("[1000*1000+9]-9=999*1001-8");
        holds("1000*1000/1=1000*1000");
        holds("1000*1000/[0-1]=0-1000*1000");
        holds("[0-1000]*1000/[0-1]=1000*1000");
        holds("1000*1000/9999=100");
    }

    static void promise09WorthOfSlashCutsTowards0() {
        holds("7/2=3");
        holds("8/2=4");
        holds("9/2=4");
        holds("[0-7]/2=0-3");
        holds("7/[0-2]=0-3");
        holds("[0-7]/[0-2]=3");
        holds("1/2=0");
        holds("[0-1]/2=0");
        holds("1/[0-2]=0");
        holds("9999/9999=1");
        holds("9998/9999=0");
    }

    static void promise09WorthOfSlashBy0Is0() {
        holds("5/0=0");
        holds("0/0=0");
        holds("[0-5]/0=0");
        holds("1000*1000/[n-n]=0");
        holds("7+5/0=7");
        holds("5/0*9=0");
        holds("5/[0/5]=0");
        worth("y:1/0", 5, false);
        worth("y:1/0+1", 5, true);
        worth("y:1/[n-5]", 5, false);
        worth("y:1/[n-5]", 6, true);
        worth("y:1/[n-5]", 4, false);
    }

    static void promise09WorthOfSignsInTheirOrder() {
        holds("8-2-1=5");
        holds("8/2/2=2");
        holds("8/2*2=8");
        holds("2+3*4=14");
        holds("[2+3]*4=20");
        holds("2*3+4=10");
        holds("9-6/3=7");
        holds("20-[10-[5-[2-1]]]=14");
        holds("1+[2*[3+[4*[5-3]]]]=23");
        worth("y:1+[1+[1+[1+[1+[1+[n-7]]]]]]", 1, false);
        worth("y:1+[1+[1+[1+[1+[1+[n-7]]]]]]", 2, true);
    }

    static void promise09WorthOfComparisonsOnBothSides() {
        holds("5=5");
        fails("5=4");
        fails("5=6");
        holds("4<5");
        fails("5<5");
        fails("6<5");
        holds("6>5");
        fails("5>5");
        fails("4>5");
        holds("0-1<0");
        holds("0-2<0-1");
        fails("0-1=1");
    }

    static void promise09WorthOfTruthsAndUnits() {
        holds("1=1&2=2");
        fails("1=1&2=1");
        fails("1=2&2=2");
        holds("1=2|2=2");
        holds("1=1|2=1");
        fails("1=2|2=1");
        holds("1=1|2=2&1=2");
        fails("(1=1|2=2)&1=2");
        holds("1=2&1=2|3=3");
        holds("!1=2&2=2");
        fails("!1=1&2=2");
        holds("!1=1|2=2");
        holds("1=1&!1=2");
        fails("1=1&!1=1");
        holds("1=2|!1=2");
        fails("1=2|!1=1");
        holds("1=1&(1=2|!(1=2))");
        fails("1=2|(1=1&!(1=1))");
        fails("!(1=1|2=2)");
        fails("!!!1=1");
        holds("!!1=1");
        holds("1=1&2=2&3=3&4=4");
        fails("1=1&2=2&3=3&4=5");
        holds("1=2|2=3|3=4|4=4");
    }

    static void promise09WorthOfTheFirstClauseThatHolds() {
        worth("y:0;y:1", 5, false);
        worth("y:1;y:0", 5, true);
        worth("y:n=5?0;y:1", 5, false);
        worth("y:n=5?0;y:1", 4, true);
        worth("y:n=5?1;y:0", 5, true);
        worth("y:n=5?1;y:0", 4, false);
        worth("y:n=4?1;y:n=5?0-1;y:n=5?1", 5, false);
        worth("y:n=4?1;y:n=5?1", 5, true);
    }

    static void promise09WorthWithoutAClauseThatHoldsIs0() {
        worth("y:n=5?1", 4, false);
        worth("y:n=5?1;y:n=6?1;y:n=7?1", 8, false);
        worth("y:n=5?1;y:n=6?1;y:n=7?1", 7, true);
        worth("y:1=2?9999", 5, false);
    }

    static void promise09WorthOfTheLastOfTwentyClauses() {
        String text = "y:0=1?1;".repeat(19) + "y:n=5?1 ";
        due("the whole tape", 160, text.length());
        worth(text, 5, true);
        worth(text, 4, false);
    }

    static void promise09WorthOfTheLongestSum() {
        String text = "y:n" + "-1".repeat(78) + " ";
        due("the whole tape", 160, text.length());
        worth(text, 78, false);
        worth(text, 79, true);
        String nested = "y:" + "[n-[1+".repeat(3) + "0" + "]]".repeat(3);
        worth(nested, 1, false);
        worth(nested, 2, true);
        String conditions = "y:" + "n=1|".repeat(38) + "n=2?1";
        worth(conditions, 2, true);
        worth(conditions, 1, true);
        worth(conditions, 3, false);
    }

    static void promise09LetterNAndItsDigits() {
        int[] numbers = {1, 9, 10, 19, 99, 100, 101, 109, 190, 199, 900, 990, 998, 999};
        int[] sums = {1, 9, 1, 10, 18, 1, 2, 10, 10, 19, 9, 18, 26, 27};
        int[] lasts = {1, 9, 0, 9, 9, 0, 1, 9, 0, 9, 0, 0, 8, 9};
        for (int k = 0; k < numbers.length; k++) {
            int n = numbers[k];
            worth("y:n=" + n + "?1", n, true);
            worth("y:s=" + sums[k] + "?1", n, true);
            worth("y:l=" + lasts[k] + "?1", n, true);
            worth("y:n=" + n + "&s=" + sums[k] + "&l=" + lasts[k] + "?0;y:1", n, false);
        }
    }

    static void promise09LetterTOfTheTabooThen() {
        TabooIsles x = Check.isles("0,99,7;ab1");
        Check.tell(x, 1, "y:n=t+1?1");
        for (int isle = 0; isle < 3; isle++) {
            x.custom(isle, 0);
        }
        due("t 0", 1, x.forbidden(0, 1, 0));
        due("t 99", 1, x.forbidden(1, 100, 0));
        due("t 7", 1, x.forbidden(2, 8, 0));
        x.change(2, 50, 20);
        due("the day ahead", 1, x.forbidden(2, 8, 49));
        due("not yet", 0, x.forbidden(2, 21, 49));
        due("t 20", 1, x.forbidden(2, 21, 50));
        due("no longer", 0, x.forbidden(2, 8, 50));
        x.change(2, 99, 0);
        due("t 0 on day 99", 1, x.forbidden(2, 1, 99));
    }

    static void promise09LetterIFrom0To5() {
        TabooIsles x = Check.isles(SIX);
        Check.tell(x, 1, "y:n=100+i?1");
        for (int isle = 0; isle < 6; isle++) {
            x.custom(isle, 0);
            for (int number = 99; number <= 106; number++) {
                due(number + " on " + isle, number == 100 + isle ? 1 : 0, x.forbidden(isle, number, 0));
            }
        }
    }

    static void promise09LetterDFrom0To99() {
        TabooIsles x = withCustom("y:n=100+d?1");
        for (int day = 0; day <= 99; day++) {
            due("day " + day, 1, x.forbidden(2, 100 + day, day));
            due("the day ahead of " + day, 0, x.forbidden(2, 100 + day, (day + 99) % 100));
            due("the day behind " + day, 0, x.forbidden(2, 100 + day, (day + 1) % 100));
        }
        due("today 0", 99, x.spoken(2, 100));
        x.today(99);
        due("today 99", 198, x.spoken(2, 199));
        due("not 100 then", 100, x.spoken(2, 100));
    }
}

/** One method for each promise: ordinary inputs, the edges that the document names, wrong inputs. */
public final class PromisesTest {
    private static final int LEAST = Integer.MIN_VALUE;
    private static final int MOST = Integer.MAX_VALUE;
    private static final String THREE = "7,4,0;ab3,bc2";

    private static final Check CHECK = new Check();

    public static void main(String[] args) {
        promises1to10();
        promises11to24();
        promises25to33();
        promises34to43();
        CHECK.finish("PromisesTest");
    }

    private static void due(String call, long want, long got) {
        CHECK.due(call, want, got);
    }

    private static void due(String call, boolean want, boolean got) {
        CHECK.due(call, want, got);
    }

    private static void promises1to10() {
        newObject();
        feed();
        end();
        faultOfIsles();
        faultOfCustoms();
        text();
        textForgets();
        taboo();
        way();
        custom();
        forbidden();
        worth();
        hand();
    }

    private static void promises11to24() {
        pay();
        longestRow();
        ways();
        cant();
        family();
        splits();
        date();
        debt();
        bit();
        weightAndLikely();
        goodAndPrice();
        deal();
        dealRows();
        gain();
        gainStuck();
        gainMeetings();
        gainLongRows();
    }

    private static void promises25to33() {
        today();
        change();
        drown();
        say();
        breach();
        fines();
        safe();
        game();
        spoken();
    }

    private static void promises34to43() {
        carried();
        near();
        joint();
        worst();
        owes();
        calendar();
        twins();
        imageAndBack();
        count();
    }

    // 1
    private static void newObject() {
        TabooIsles x = new TabooIsles();
        int[] first = {0, 0, 0, 0, 0, 0, 0, 9};
        for (int what = 0; what < 8; what++) {
            due("new count " + what, first[what], x.count(what));
        }
        due("new fault", 0, x.fault(0));
        due("new text", -1, x.text(0));
        due("new pay", -1, x.pay(0, 1, 0, -1));
        due("new gain", -1000000, x.gain(0, 0, 1, 0, -1));
        due("new game", -1000000, x.game(0, 1, 1, 0, 0));
        due("new weight", true, x.weight(99, 99));
        due("new drown", -1, x.drown(1, 0, 0));
        due("new change", -1, x.change(0, 0, 0));
        due("new custom", false, x.custom(0, -1));
        due("new back", -1, x.back());
    }

    // 2
    private static void feed() {
        TabooIsles x = new TabooIsles();
        due("no bytes", 0, x.feed(0, 0, 0, 0, 0));
        due("bytes of 0 left out", 3, x.feed(0x31002C00, 0, 0, 0, 0x32));
        due("highest first", 3, x.fault(0));
        due("twenty more", 23, x.feed(-1, -1, -1, -1, -1));
        x.end(0);
        for (int k = 1; k <= 8; k++) {
            due("feed " + k, 20 * k, x.feed(0x20202020, 0x20202020, 0x20202020, 0x20202020, 0x20202020));
        }
        due("one too many", -1, x.feed(0, 0, 0, 0, 1));
        due("one too many", -1, x.feed(1, 0, 0, 0, 0));
        due("one too many", -1, x.feed(0, 0x100, 0, 0, 0));
        due("one too many", -1, x.feed(0, 0, 0x10000, 0, 0));
        due("one too many", -1, x.feed(0, 0, 0, 0x1000000, 0));
        due("two too many", -1, x.feed(1, 0, 0, 0x1000000, 0));
        due("none more", 160, x.feed(0, 0, 0, 0, 0));
        due("as it was", 160, x.count(2));
        due("blanks alone", 160, x.fault(0));
        x.end(150);
        due("eleven more", -1, x.feed(-1, -1, 0x01010100, 0, 0));
        due("ten more", 160, x.feed(-1, -1, 0x01010000, 0, 0));
    }

    // 3
    private static void end() {
        TabooIsles x = Check.tape(new TabooIsles(), "1,2;ab1,");
        due("end 9", false, x.end(9));
        due("end -1", false, x.end(-1));
        due("end least", false, x.end(LEAST));
        due("as it was", 8, x.count(2));
        due("end 8", true, x.end(8));
        due("fault", 8, x.fault(0));
        due("end 7", true, x.end(7));
        due("no fault", -1, x.fault(0));
        due("end 8 is gone", false, x.end(8));
    }

    private static void fault(int sort, String text, int at) {
        due("fault of " + text, at, Check.tape(new TabooIsles(), text).fault(sort));
    }

    // 4
    private static void faultOfIsles() {
        String[] sound = {"1,2;ab1", "00,07;ba9", " 99 , 0 ; b  a 9 ", "1,2,3,4,5,6;fa1",
            "1,1,1;ab1,bc1,ac1"};
        for (String text : sound) {
            fault(0, text, -1);
        }
        String[] faulty = {"", "x", ",", "1", "100,2;ab1", "1 2,3", "1;ab1", "1,2,3,4,5,6,7", "1,,", "1,2;", "1,2;ab0",
            "1,2;ab10", "1,2;ab", "1,2;ac1", "1,2;ca1", "1,2;aa1", "1,2;ab1,ab1", "1,2;ab1,ba1", "1,2;ab1;", "1,2;AB1",
            "1,2;ab1,", "1,-2", "1,2:ab1", "1,2,", "1,2; b1", "\u00ff1,2;ab1", "1,2;a", "1,2;ab",
            "1,2;a1", "1,2;aB", "1,2;abx", "1,x", "1;", ";", "1,2,3,4,5,6,", "1,2,3,4,5,6", "1,2 ab1"};
        int[] at = {0, 0, 0, 1, 2, 2, 1, 11, 2, 4, 6, 7, 6, 5, 4, 5, 9, 9, 7, 4, 8, 2, 3, 4, 6, 0, 5, 6, 5, 5, 6, 2, 1, 0, 11, 11, 4};
        for (int k = 0; k < faulty.length; k++) {
            fault(0, faulty[k], at[k]);
        }
        TabooIsles x = new TabooIsles();
        due("no such sort 2", -2, x.fault(2));
        due("no such sort -1", -2, x.fault(-1));
        due("no such sort least", -2, x.fault(LEAST));
    }

    private static void faultOfCustoms() {
        String[] sound = {"y:1", "y:n", " y : 1 ", "y:9999", "y:n=1?1", "y:!n=1?1", "y:(n=1)?1", "y:((n=1|t<2)&s>3)?l-i*d/2",
            "y:[1]", "y:[1]=2?3", "y:1;y:2;y:3", "y:[[[[[[1]]]]]]", "y:!!!!!!n=1?1", "y:!(!(!(1=1)))?1",
            "y:!!!!!n=[1]?1", "y:!!!!!!n=1&!!!!!!n=2?1", "y:n=1?[[[[[[1]]]]]]", "y:1+2-3*4/5", "y:n+1=2|n=3?1", "y:n=[[[[[[1]]]]]]?1", "y:n=1|[[[[[[1]]]]]]=1?1",
            "y:n=1&((((((n=1))))))?[[[[[[1]]]]]]"};
        for (String text : sound) {
            fault(1, text, -1);
        }
        String[] faulty = {"", "x", "y", "y1", "y:", "y:12345", "y:1 2", "y:n=1", "y:n=1?", "y:n?1", "y:n=1=1", "y:(1)",
            "y:(n=1", "y:[1", "y:[n=1]", "y:[(n", "y:n=1?1?1", "y:n=1?1=1", "y:1;", "y:1;n", "y:-1", "y:+", "y:1+",
            "y:[[[[[[[1]]]]]]]", "y:!!!!!!!n=1?1", "y:!!!!!!n=[1]?1", "y:((((((n=1))))))?1", "y:(((((((n=1)))))))?1",
            "y:!n?1", "y:(n=1)+1?1", "y:(n=1)=1?1", "y:1)", "y:1]", "y:n=1|2?1", "y:n=1&|", "y:nn", "y:1n", "y:N", "y:n==1",
            "y:(n=1)", "y:!n=1;", "y:[1]]", "y:n=(1)", "y:n=", "y:n=1|", "y:n=1&", "y:(n=", "y:1*", "y:1/?",
            "y:n=1?", "y:n=1?*", "y:!", "y:(", "y:[", "y:n=1|(n=2", "y:n<", "y:n=1?n>", "y:1;y", "y:1;;"};
        int[] at = {0, 0, 1, 1, 2, 6, 4, 5, 6, 3, 5, 4, 6, 4, 4, 3, 7, 7, 4, 4, 2, 2, 4, 8, 8, 10, -1, 8, 4, 7, 7, 3, 3,
            7, 6, 3, 3, 2, 4, 7, 6, 5, 4, 4, 6, 6, 5, 4, 4, 6, 6, 3, 3, 3, 10, 4, 7, 5, 4};
        for (int k = 0; k < faulty.length; k++) {
            fault(1, faulty[k], at[k]);
        }
    }

    // 5
    private static void text() {
        TabooIsles x = new TabooIsles();
        due("a custom without isles", 0, Check.tell(x, 1, "y:1"));
        due("the tape is empty", 0, x.count(2));
        due("a fault", -1, Check.tell(x, 1, "y:1;"));
        due("the tape stays", 4, x.count(2));
        due("no such sort", -1, x.text(2));
        due("no such sort", -1, x.text(-1));
        x.end(3);
        due("the second", 1, x.text(1));
        due("the third", 2, Check.tell(x, 1, "y:2"));
        due("the fourth", 3, Check.tell(x, 1, "y:3"));
        due("no fifth", -1, Check.tell(x, 1, "y:4"));
        due("its tape stays", 3, x.count(2));
        due("four", 4, x.count(1));
        due("not isles", -1, x.text(0));
        due("six isles", 6, Check.tell(x, 0, "1,2,3,4,5,6;fa9"));
        due("tape empty", 0, x.count(2));
        due("its way", 9, x.way(0, 5));
    }

    private static void textForgets() {
        TabooIsles x = Check.customs(Check.isles("7,4,0;ab3"), 2, "y:1");
        x.hand(3);
        x.weight(5, 0);
        x.good();
        x.today(9);
        x.change(0, 0, 1);
        x.say(0, 1);
        x.image();
        due("a fault", -1, Check.tell(x, 0, "5"));
        due("nothing is gone", 1, x.count(4));
        due("other isles", 3, Check.tell(x, 0, "4,5,6;bc1"));
        int[] kept = {3, 1, 0, 0, 0, 0, 0, 3};
        for (int what = 0; what < 8; what++) {
            due("kept " + what, kept[what], x.count(what));
        }
        due("no image", -1, x.back());
        due("no way of before", -1, x.way(0, 1));
        due("no custom of before", 0, x.forbidden(2, 3, 0));
        due("no change of before", 4, x.taboo(0, 50));
        due("weights are kept", -1, x.likely(1, 4, 0));
        due("customs are kept", true, x.custom(1, 0));
        due("customs are kept", 1, x.forbidden(1, 3, 0));
    }

    // 6
    private static void taboo() {
        TabooIsles x = Check.isles(THREE);
        due("taboo", 7, x.taboo(0, 0));
        due("none", 0, x.taboo(2, 99));
        x.change(0, 5, 1);
        x.change(0, 3, 2);
        x.change(0, 5, 3);
        int[] on = {7, 7, 7, 2, 2, 3, 3};
        for (int day = 0; day < on.length; day++) {
            due("taboo on " + day, on[day], x.taboo(0, day));
        }
        due("that of another", 4, x.taboo(1, 99));
        CHECK.dueNoSuch(x, 3, 0);
        CHECK.dueNoSuch(x, -1, 0);
        CHECK.dueNoSuch(x, 0, 100);
        CHECK.dueNoSuch(x, 0, -1);
        CHECK.dueNoSuch(x, MOST, LEAST);
        CHECK.dueNoSuch(new TabooIsles(), 0, 0);
    }

    // 7
    private static void way() {
        TabooIsles x = Check.isles(THREE);
        due("way", 3, x.way(0, 1));
        due("back", 3, x.way(1, 0));
        due("none", -1, x.way(0, 2));
        due("itself", -1, x.way(1, 1));
        due("one day", 1, Check.isles("1,2;ab1").way(1, 0));
        due("nine days", 9, Check.isles("1,2;ab9").way(1, 0));
        due("no isle", -1, x.way(0, 3));
        due("no isle", -1, x.way(-1, 0));
        due("no isle", -1, x.way(LEAST, MOST));
    }

    // 8
    private static void custom() {
        TabooIsles x = Check.isles(THREE);
        due("none at first", 0, x.forbidden(2, 5, 0));
        due("not told", false, x.custom(2, 0));
        Check.customs(x, 2, "y:n=5?1");
        due("now", 1, x.forbidden(2, 5, 0));
        due("not of another", 0, x.forbidden(1, 5, 0));
        due("no such", false, x.custom(2, 1));
        due("no such", false, x.custom(2, -2));
        due("no isle", false, x.custom(3, 0));
        due("no isle", false, x.custom(-1, 0));
        due("none again", true, x.custom(2, -1));
        due("none again", 0, x.forbidden(2, 5, 0));
    }

    // 9
    private static void forbidden() {
        TabooIsles y = Check.customs(Check.isles(THREE), 1, "y:n>2&n<6?1");
        int[] numbers = {0, 1, 2, 3, 4, 5, 6, 999};
        int[] want = {0, 0, 0, 1, 1, 1, 0, 0};
        for (int k = 0; k < numbers.length; k++) {
            due("forbidden " + numbers[k], want[k], y.forbidden(1, numbers[k], 50));
        }
        Check.customs(y, 2, "y:1");
        due("0 never is", 0, y.forbidden(2, 0, 0));
        due("999", 1, y.forbidden(2, 999, 99));
        due("no such number", -1, y.forbidden(2, 1000, 0));
        due("no such number", -1, y.forbidden(2, -1, 0));
        due("no such day", -1, y.forbidden(2, 1, 100));
        due("no such day", -1, y.forbidden(2, 1, -1));
        due("no such isle", -1, y.forbidden(3, 1, 0));
        y.change(0, 4, 9);
        due("the taboo of the day", 1, y.forbidden(0, 9, 4));
        due("the taboo of the day ahead", 0, y.forbidden(0, 9, 3));
    }

    private static void worth(String custom, int number, boolean want) {
        TabooIsles x = Check.customs(Check.isles("7,8,9,10;ab1"), 3, custom);
        due(custom + " of " + number, want ? 1 : 0, x.forbidden(3, number, 42));
    }

    private static void worth() {
        worth("y:n-5", 5, false);
        worth("y:n-5", 6, true);
        worth("y:2-1-1", 1, false);
        worth("y:8/2/2-1", 1, true);
        worth("y:2+3*4-13", 1, true);
        worth("y:[2+3]*4-20", 1, false);
        worth("y:[0-7]/2+4", 1, true);
        worth("y:[0-7]/2+3", 1, false);
        worth("y:5/0+1", 1, true);
        worth("y:5/[n-1]", 1, false);
        worth("y:9999*9999=1000*1000?1", 1, true);
        worth("y:9999*9999-1000*999-1000", 1, false);
        worth("y:[0-9999]*9999+1000*1000+1", 1, true);
        worth("y:1000*1000+1-1000*1000", 1, false);
        worth("y:1000*1000-999*1001", 1, true);
        worth("y:[0-1000]*1000+999*1001+1", 1, false);
        worth("y:[0-1000]*1000+999*1001+2", 1, true);
        worth("y:[0-1000]*1000-1+999*1001+2", 1, true);
        worth("y:t=10&i=3&d=42&s=15&l=8&n=258?1", 258, true);
        worth("y:n=1|n=2&n=3?1", 1, true);
        worth("y:(n=1|n=2)&n=3?1", 1, false);
        worth("y:!n=1&n=2?1", 2, true);
        worth("y:!n=1|n=1?1", 1, true);
        worth("y:!!n=1?1", 1, true);
        worth("y:!!n=1?1", 2, false);
        worth("y:!n=1?1", 1, false);
        worth("y:!!!n=1?1", 1, false);
        worth("y:!(n=1)&!(n=2)?1", 2, false);
        worth("y:n=1|n=1?[n-1]", 1, false);
        worth("y:n=1|n=1?[n-0]", 1, true);
        worth("y:!(n=1&n=2)?1", 1, true);
        worth("y:n=1?0;y:1", 1, false);
        worth("y:n=1?0;y:1", 2, true);
        worth("y:0;y:1", 2, false);
        worth("y:n=1?1", 2, false);
        worth("y:n=1?1;y:n=2?2;y:n=3?3", 3, true);
        worth("y:n<3?1", 3, false);
        worth("y:n>3?1", 3, false);
        worth("y:n>2?1", 3, true);
        worth("y:n = 999 ? s - 26", 999, true);
        worth("y:0007=n?1", 7, true);
        // the TABOO is no matter of the CUSTOM
        worth("y:0", 10, true);
    }

    // 10
    private static void hand() {
        TabooIsles x = Check.isles(THREE);
        due("9 at first", 9, x.count(7));
        due("0", false, x.hand(0));
        due("21", false, x.hand(21));
        due("least", false, x.hand(LEAST));
        due("as it was", 9, x.count(7));
        due("20", true, x.hand(20));
        due("one part", 1, x.pay(2, 20, 0, -1));
        due("1", true, x.hand(1));
        due("ones", 20, x.pay(2, 20, 0, -1));
    }

    // 11
    private static void pay() {
        TabooIsles x = Check.isles("9,3,0;ab3");
        int[] row = {8, 8, 4};
        due("20 in", 3, x.pay(0, 20, 1, -1));
        for (int k = 0; k < 3; k++) {
            due("20, part " + k, row[k], x.pay(0, 20, 1, k));
        }
        due("no fourth", -1, x.pay(0, 20, 1, 3));
        due("no such part", -1, x.pay(0, 20, 1, -2));
        due("18 by 0", 2, x.pay(0, 18, 0, -1));
        due("18 by 2", 3, x.pay(0, 18, 2, -1));
        due("18 by 2, first", 8, x.pay(0, 18, 2, 0));
        due("18 by 2, second", 9, x.pay(0, 18, 2, 1));
        due("18 by 2, third", 1, x.pay(0, 18, 2, 2));
        due("9 by 2", -1, x.pay(0, 9, 2, -1));
        due("27 by 4 not in 3", 4, x.pay(1, 27, 4, -1));
        due("27 by 4, the last", 1, x.pay(1, 27, 4, 3));
        due("1", 1, x.pay(2, 1, 7, -1));
        due("200", 23, x.pay(2, 200, 7, -1));
        due("the last of 200", 2, x.pay(2, 200, 7, 22));
        due("0", -1, x.pay(2, 0, 0, -1));
        due("201", -1, x.pay(2, 201, 0, -1));
        due("rules 8", -1, x.pay(2, 5, 8, -1));
        due("rules -1", -1, x.pay(2, 5, -1, -1));
        due("no isle", -1, x.pay(3, 5, 0, -1));
        x.today(5);
        x.change(2, 5, 5);
        due("of TODAY", 2, x.pay(2, 5, 1, -1));
    }

    private static void longestRow() {
        TabooIsles x = Check.isles(THREE);
        x.hand(1);
        due("60 of 1", 60, x.pay(2, 60, 0, -1));
        due("the 60th", 1, x.pay(2, 60, 0, 59));
        due("61 of 1", -1, x.pay(2, 61, 0, -1));
        x.hand(2);
        due("120 of 2", 60, x.pay(2, 120, 0, -1));
        due("121 of 2", -1, x.pay(2, 121, 0, -1));
        Check.customs(x, 2, "y:n=60?1");
        due("not 60 parts", -1, x.pay(2, 120, 4, -1));
        due("not 60 parts", 59, x.pay(2, 118, 4, -1));
    }

    // 12
    private static void ways() {
        TabooIsles x = Check.isles(THREE);
        due("3 in 2", 2, x.ways(2, 3, 0, 2));
        due("5 in 1", 1, x.ways(2, 5, 0, 1));
        due("10 in 1", 0, x.ways(2, 10, 0, 1));
        due("1 in 1", 1, x.ways(2, 1, 7, 1));
        due("200 in 8", 0, x.ways(2, 200, 0, 8));
        due("sum 0", -1, x.ways(2, 0, 0, 1));
        due("10 in 2", 9, x.ways(2, 10, 0, 2));
        due("11 in 2", 8, x.ways(2, 11, 0, 2));
        due("not 4", 8 - 2, x.ways(1, 11, 1, 2));
        due("total not 4", 9 - 1, x.ways(1, 10, 2, 2));
        due("the sum itself", 0, x.ways(1, 4, 2, 2));
        due("not in 4", 0, x.ways(1, 10, 4, 4));
        due("in 3", 36, x.ways(1, 10, 4, 3));
        x.hand(20);
        due("the most", 614299660L, x.ways(2, 84, 0, 8));
        due("160 in 8", 1, x.ways(2, 160, 0, 8));
        due("parts 0", -1, x.ways(2, 5, 0, 0));
        due("parts 9", -1, x.ways(2, 5, 0, 9));
        due("sum 201", -1, x.ways(2, 201, 0, 1));
        due("rules 8", -1, x.ways(2, 5, 8, 1));
        due("no isle", -1, x.ways(-1, 5, 0, 1));
    }

    // 13
    private static void cant() {
        TabooIsles x = Check.customs(Check.isles(THREE), 2, "y:n>9?1");
        due("by 2", 191, x.cant(2, 2, -1));
        due("the first", 10, x.cant(2, 2, 0));
        due("the last", 200, x.cant(2, 2, 190));
        due("no more", -1, x.cant(2, 2, 191));
        due("in nine at most", 119, x.cant(2, 4, -1));
        due("the first by 4", 82, x.cant(2, 4, 0));
        due("no such", -1, x.cant(2, 4, -2));
        due("no such rules", -1, x.cant(2, 8, -1));
        due("no such isle", -1, x.cant(3, 0, -1));
        x.hand(1);
        due("by ones", 140, x.cant(0, 0, -1));
        x.hand(9);
        Check.customs(x, 0, "y:n<9?1");
        due("nine parts and more", 8, x.cant(0, 4, -1));
        due("1 is the first", 1, x.cant(0, 4, 0));
    }

    // 14
    private static void family() {
        TabooIsles x = Check.isles("7,1,0,2;ab1");
        due("8 in one", 1, x.family(0, 8, -1));
        due("7 in two", 2, x.family(0, 7, -1));
        due("7: 6", 6, x.family(0, 7, 0));
        due("7: 1", 1, x.family(0, 7, 1));
        due("no third", -1, x.family(0, 7, 2));
        due("not one group: 30", 2, x.family(1, 30, -1));
        due("no group of 1: 28 and 2", 28, x.family(1, 30, 0));
        due("1 can't land", -1, x.family(1, 1, -1));
        due("2 can't land", -1, x.family(1, 2, -1));
        due("2 by itself", -1, x.family(3, 2, -1));
        due("two groups may not be", 1, x.family(3, 5, -1));
        x.hand(2);
        due("hands are no matter", 1, x.family(2, 30, -1));
        due("30 at once", 30, x.family(2, 30, 0));
        due("0", -1, x.family(2, 0, -1));
        due("31", -1, x.family(2, 31, -1));
        due("no isle", -1, x.family(4, 3, -1));
        due("no such", -1, x.family(2, 3, -2));
        Check.customs(x, 2, "y:n>9?1;y:n=3?1");
        due("30 in four", 4, x.family(2, 30, -1));
        int[] groups = {9, 9, 8, 4};
        for (int k = 0; k < 4; k++) {
            due("30, group " + k, groups[k], x.family(2, 30, k));
        }
    }

    // 15
    private static void splits() {
        TabooIsles x = Check.isles("7,2,0;ab1");
        due("1", 1, x.splits(2, 1));
        due("5", 7, x.splits(2, 5));
        due("30", 5604, x.splits(2, 30));
        // of 5: 5, 3 1 1, 1 1 1 1 1; 4 1 is two groups
        due("5 without 2", 3, x.splits(1, 5));
        due("2 without 2", 0, x.splits(1, 2));
        due("0", -1, x.splits(2, 0));
        due("31", -1, x.splits(2, 31));
        due("no isle", -1, x.splits(3, 3));
    }

    // 16
    private static void date() {
        TabooIsles x = Check.customs(Check.isles("1,30,0;ab1"), 2, "y:1");
        due("how many", 29, x.date(0, -1));
        due("the first", 2, x.date(0, 1));
        due("the 29th", 30, x.date(0, 29));
        due("no 30th", -1, x.date(0, 30));
        due("the last", 29, x.date(1, 29));
        due("all missing", 0, x.date(2, -1));
        due("none", -1, x.date(2, 1));
        due("0", -1, x.date(0, 0));
        due("-2", -1, x.date(0, -2));
        due("31", -1, x.date(0, 31));
        due("most", -1, x.date(0, MOST));
        due("no isle", -1, x.date(3, 1));
    }

    // 17
    private static void debt() {
        TabooIsles x = Check.customs(Check.isles("7,30,0,5;ab1"), 2, "y:1");
        Check.customs(x, 3, "y:n>27|n<3?1");
        due("not missing", 6, x.debt(0, 6, 0));
        due("no jump", 0, x.debt(0, 6, 1));
        due("jumps", 8, x.debt(0, 7, 0));
        due("the month behind", 1, x.debt(1, 30, 0));
        due("one later", 1, x.debt(1, 30, 1));
        due("over the end", 3, x.debt(3, 29, 0));
        due("over the end", 1, x.debt(3, 29, 1));
        due("in the month", 3, x.debt(3, 1, 0));
        due("in the month", 0, x.debt(3, 1, 1));
        due("all missing", -1, x.debt(2, 7, 0));
        due("all missing", -1, x.debt(2, 7, 1));
        due("0", -1, x.debt(0, 0, 0));
        due("31", -1, x.debt(0, 31, 0));
        due("no such", -1, x.debt(0, 6, 2));
        due("no such", -1, x.debt(0, 6, -1));
        due("no isle", -1, x.debt(4, 6, 0));
    }

    // 18
    private static void bit() {
        TabooIsles x = Check.customs(Check.isles("7,4,0;ab1"), 2, "y:n>6&n<10?1;y:n>100?1");
        due("6 and a bit", 3, x.bit(2, 6, -1));
        due("the third", 9, x.bit(2, 6, 2));
        due("no fourth", -1, x.bit(2, 6, 3));
        due("nothing between", 0, x.bit(2, 5, -1));
        due("forbidden", -1, x.bit(2, 7, -1));
        due("up to 999", 899, x.bit(2, 100, -1));
        due("the last", 999, x.bit(2, 100, 898));
        due("no more", -1, x.bit(2, 100, 899));
        due("0", 0, x.bit(2, 0, -1));
        due("200", -1, x.bit(2, 200, -1));
        due("200 of another", 0, x.bit(1, 200, -1));
        due("201", -1, x.bit(1, 201, -1));
        due("-1", -1, x.bit(1, -1, -1));
        due("-2", -1, x.bit(2, 6, -2));
        due("no isle", -1, x.bit(3, 6, -1));
    }

    // 19, 20
    private static void weightAndLikely() {
        TabooIsles x = Check.customs(Check.isles("7,4,0;ab1"), 2, "y:n>6&n<10?1;y:n>98&n<102?1");
        due("a third", 333333, x.likely(2, 6, 0));
        due("weight", true, x.weight(8, 4));
        due("4 of 6", 666666, x.likely(2, 6, 1));
        due("1 of 6", 166666, x.likely(2, 6, 2));
        due("no fourth", -1, x.likely(2, 6, 3));
        due("none", -1, x.likely(2, 6, -1));
        due("nothing meant", -1, x.likely(2, 5, 0));
        due("forbidden", -1, x.likely(2, 7, 0));
        due("weight 0", true, x.weight(7, 0));
        due("no part", 0, x.likely(2, 6, 0));
        due("more", 800000, x.likely(2, 6, 1));
        x.weight(8, 0);
        x.weight(9, 0);
        due("all 0", -1, x.likely(2, 6, 0));
        due("weight of 99", true, x.weight(99, 98));
        due("1 above", 10000, x.likely(2, 98, 1));
        due("99", 980000, x.likely(2, 98, 0));
        due("weight of 1", true, x.weight(1, 3));
        Check.customs(x, 1, "y:n<3?1");
        due("1, of 1 and 2", 750000, x.likely(1, 0, 0));
        due("2, of 1 and 2", 250000, x.likely(1, 0, 1));
        due("weight of 100", false, x.weight(100, 1));
        due("weight of 0", false, x.weight(0, 1));
        due("weight 100", false, x.weight(1, 100));
        due("weight -1", false, x.weight(1, -1));
        due("no isle", -1, x.likely(3, 6, 0));
        due("m 201", -1, x.likely(2, 201, 0));
    }

    // 21, 22
    private static void goodAndPrice() {
        TabooIsles x = new TabooIsles();
        due("no isles", -1, x.good());
        due("no such", false, x.price(0, 0, 1));
        Check.tell(x, 0, "0,0;ab1");
        due("first", 0, x.good());
        due("second", 1, x.good());
        due("third", 2, x.good());
        due("no fourth", -1, x.good());
        due("three", 3, x.count(6));
        due("price", true, x.price(0, 1, 99));
        due("price 1", true, x.price(2, 0, 1));
        due("price 0", false, x.price(0, 0, 0));
        due("price 100", false, x.price(0, 0, 100));
        due("no good", false, x.price(3, 0, 1));
        due("no good", false, x.price(-1, 0, 1));
        due("no isle", false, x.price(0, 2, 1));
        due("no isle", false, x.price(0, -1, 1));
        // 10 at first: one for 10, sold for 99
        due("10 at first", 89, x.gain(0, 10, 1, 1, -1));
        due("99", 0, x.gain(1, 98, 1, 1, -1));
        Check.tell(x, 0, "0,0;ab1");
        due("none of before", 0, x.count(6));
        x.good();
        due("10 again", 0, x.gain(0, 10, 1, 1, -1));
    }

    // 23
    private static void deal() {
        TabooIsles x = Check.isles("12,3,0;ab1");
        x.good();
        due("12 is the taboo", 1, x.deal(0, 0, 1, 0));
        x.price(0, 0, 4);
        due("3 for 12", 0, x.deal(0, 0, 3, 0));
        due("2 for 8", 1, x.deal(0, 0, 2, 0));
        due("4 for 16", 1, x.deal(0, 0, 4, 0));
        due("3 not on another", 0, x.deal(0, 1, 3, 0));
        x.price(0, 2, 99);
        due("2 for 198", 1, x.deal(0, 2, 2, 0));
        due("3 for 297", 0, x.deal(0, 2, 3, 0));
        x.price(0, 2, 50);
        due("4 for 200", 1, x.deal(0, 2, 4, 0));
        x.change(2, 7, 4);
        due("4 on that day", 0, x.deal(0, 2, 4, 7));
        due("4 on the day ahead", 1, x.deal(0, 2, 4, 6));
        x.hand(1);
        due("200 ones are no row", 0, x.deal(0, 2, 4, 6));
        due("no total 4", 0, x.deal(0, 2, 1, 7));
        x.hand(2);
        due("over the total 4", 1, x.deal(0, 2, 1, 7));
        x.hand(9);
        Check.customs(x, 1, "y:n<10?1");
        due("no parts", 0, x.deal(0, 1, 1, 0));
        x.price(0, 0, 10);
        due("6 for 60", 1, x.deal(0, 0, 6, 0));
        due("day 99", 1, x.deal(0, 0, 6, 99));
        due("no good", -1, x.deal(1, 0, 1, 0));
        due("no good", -1, x.deal(-1, 0, 1, 0));
        due("no isle", -1, x.deal(0, 3, 1, 0));
        due("q 0", -1, x.deal(0, 0, 0, 0));
        due("q 7", -1, x.deal(0, 0, 7, 0));
        due("day 100", -1, x.deal(0, 0, 1, 100));
        due("day -1", -1, x.deal(0, 0, 1, -1));
    }

    private static void dealRows() {
        TabooIsles x = Check.isles("0,0,0;ab1");
        x.good();
        int[] hands = {1, 1, 2, 2, 3, 3, 3, 4, 1, 1};
        int[] prices = {60, 61, 40, 61, 90, 91, 99, 50, 20, 21};
        int[] many = {1, 1, 3, 2, 2, 2, 2, 4, 3, 3};
        // 120 in sixty of 2, 122 in no sixty; 180 in sixty of 3, 182 in no sixty
        int[] want = {1, 0, 1, 0, 1, 0, 0, 1, 1, 0};
        for (int k = 0; k < hands.length; k++) {
            x.hand(hands[k]);
            x.price(0, 0, prices[k]);
            due(many[k] + " at " + prices[k] + ", hand " + hands[k], want[k], x.deal(0, 0, many[k], 0));
        }
        x.hand(20);
        x.price(0, 1, 22);
        Check.customs(x, 1, "y:n>1&n<12?1");
        due("by rules 7 no row", -1, x.pay(1, 22, 7, -1));
        due("by rules 3 in any number of parts", 1, x.deal(0, 1, 1, 0));
        x = Check.isles("3,0;ab1");
        x.good();
        x.hand(3);
        x.price(0, 0, 60);
        due("120 in sixty of 2, without 3", 1, x.deal(0, 0, 2, 0));
        x.price(0, 0, 61);
        due("122 in more, without 3", 0, x.deal(0, 0, 2, 0));
        x.change(0, 8, 0);
        due("122 with 3 again", 1, x.deal(0, 0, 2, 8));
    }

    // 24
    private static void gain() {
        TabooIsles x = Check.isles("0,0,0,0;ab1,bc1,ac2");
        due("nothing to trade", 0, x.gain(0, 5, 1, 2, -1));
        int[] idle = {-1, 0, 1, -1, 0, 0};
        for (int k = 0; k < 6; k++) {
            due("idle step " + k, idle[k], x.gain(0, 5, 1, 2, k));
        }
        x.good();
        x.good();
        x.price(0, 0, 2);
        x.price(0, 1, 5);
        x.price(0, 2, 3);
        x.price(1, 0, 8);
        x.price(1, 1, 4);
        x.price(1, 2, 9);
        // 2 of good 0 to b (10), 2 of good 1 to c (20)
        due("two legs", -4 + 10 - 8 + 18, x.gain(0, 5, 2, 2, -1));
        int[] route = {0, 2, 1, 1, 2, 2};
        for (int k = 0; k < 6; k++) {
            due("step " + k, route[k], x.gain(0, 5, 2, 2, k));
        }
        due("no step 6", -1000000, x.gain(0, 5, 2, 2, 6));
        due("no step -2", -1000000, x.gain(0, 5, 2, 2, -2));
        due("no legs", 0, x.gain(0, 5, 2, 0, -1));
        due("a hold of 6", 18, x.gain(0, 999, 6, 1, -1));
        due("three legs", 6 + 8 + 6, x.gain(0, 999, 2, 3, -1));
        // a b c b brings as much: it has the higher ISLE where they first differ
        int[] lower = {0, 2, 1, 1, 2, 0, 0, 2, 1};
        for (int k = 0; k < 9; k++) {
            due("three legs, step " + k, lower[k], x.gain(0, 999, 2, 3, k));
        }
        due("no legs, no step", -1000000, x.gain(0, 5, 2, 0, 0));
        due("can't go", -1000000, x.gain(3, 5, 2, 1, -1));
        due("needn't go", 0, x.gain(3, 5, 2, 0, -1));
        due("no money", 0, x.gain(0, 0, 6, 1, -1));
        due("money -1", -1000000, x.gain(0, -1, 1, 1, -1));
        due("money 1000", -1000000, x.gain(0, 1000, 1, 1, -1));
        due("hold 0", -1000000, x.gain(0, 5, 0, 1, -1));
        due("hold 7", -1000000, x.gain(0, 5, 7, 1, -1));
        due("legs 4", -1000000, x.gain(0, 5, 1, 4, -1));
        due("legs -1", -1000000, x.gain(0, 5, 1, -1, -1));
        due("no isle", -1000000, x.gain(4, 5, 1, 1, -1));
        due("least", -1000000, x.gain(0, 5, 1, LEAST, LEAST));
    }

    private static void gainStuck() {
        TabooIsles x = Check.isles("0,2,0;ab1,bc1");
        x.good();
        x.price(0, 0, 1);
        x.price(0, 1, 9);
        x.price(0, 2, 50);
        // two may not be sold on b: kept to c, where they bring more than one by one
        due("over b", 98, x.gain(0, 2, 2, 2, -1));
        int[] route = {0, 2, 1, -1, 0, 2};
        for (int k = 0; k < 6; k++) {
            due("stuck step " + k, route[k], x.gain(0, 2, 2, 2, k));
        }
        x.change(2, 2, 1);
        x.change(2, 3, 100 / 2);
        due("one may not be sold on c on day 2", 98, x.gain(0, 2, 2, 2, -1));
        x.today(1);
        due("50 may not, but a 100", 98, x.gain(0, 2, 2, 2, -1));
        x.today(99);
        x.change(2, 99, 2);
        due("behind 99 it is 99", 49, x.gain(0, 2, 2, 2, -1));
        due("nothing is better than a loss", 0, x.gain(2, 99, 2, 1, -1));
    }

    private static void gainMeetings() {
        // e on day 5 by two legs over d, by three over b and c: two leave one more, to f
        TabooIsles x = Check.isles("0,0,0,0,0,0;ab1,bc1,ce3,ad3,de2,ef1");
        x.good();
        x.price(0, 5, 99);
        due("sold on f", 89, x.gain(0, 10, 1, 3, -1));
        int[] route = {-1, 0, 3, -1, 0, 4, 0, 1, 5};
        for (int k = 0; k < 9; k++) {
            due("meeting step " + k, route[k], x.gain(0, 10, 1, 3, k));
        }
    }

    private static void gainLongRows() {
        TabooIsles x = Check.isles("0,0,0;ab1,bc1");
        x.good();
        x.hand(1);
        x.price(0, 0, 61);
        x.price(0, 1, 60);
        x.price(0, 2, 62);
        due("can't be bought for 61", 0, x.gain(0, 99, 1, 2, -1));
        due("nothing is bought", -1, x.gain(0, 99, 1, 2, 0));
        x.price(0, 0, 50);
        due("sold for 60", 10, x.gain(0, 99, 1, 1, -1));
        x.price(0, 1, 61);
        due("can't be sold for 61", 0, x.gain(0, 99, 1, 1, -1));
        due("nor for 62", 0, x.gain(0, 99, 1, 2, -1));
        x.hand(2);
        due("61 in 31 parts", 11, x.gain(0, 99, 1, 1, -1));
        due("62 on the way", 12, x.gain(0, 99, 1, 2, -1));
        x.price(0, 0, 10);
        due("122 can't be had, 61 can", 51, x.gain(0, 20, 2, 1, -1));
    }

    // 25
    private static void today() {
        TabooIsles x = new TabooIsles();
        due("99", true, x.today(99));
        due("100", false, x.today(100));
        due("-1", false, x.today(-1));
        due("as it was", 99, x.count(3));
        due("0", true, x.today(0));
        Check.tell(x, 0, THREE);
        x.change(0, 5, 8);
        due("not today", 8, x.spoken(0, 8));
        x.today(5);
        due("today", 7, x.spoken(0, 8));
    }

    // 26
    private static void change() {
        TabooIsles x = Check.isles(THREE);
        for (int k = 1; k <= 18; k++) {
            due("change " + k, k, x.change(0, 99, k));
        }
        due("taboo 100", -1, x.change(0, 0, 100));
        due("taboo -1", -1, x.change(0, 0, -1));
        due("day 100", -1, x.change(0, 100, 1));
        due("day -1", -1, x.change(0, -1, 1));
        due("no isle", -1, x.change(3, 0, 1));
        x.change(1, 0, 99);
        due("taboo 99", 99, x.taboo(1, 0));
        due("to none", 20, x.change(0, 0, 0));
        due("no more", -1, x.change(0, 0, 1));
        due("none", 0, x.taboo(0, 98));
        due("the last told", 18, x.taboo(0, 99));
    }

    // 27
    private static void drown() {
        TabooIsles x = Check.isles("7,4;ab3");
        due("no risk", 0, x.drown(3, 0, 77));
        due("three days", 3, x.count(3));
        due("all risk", 4, x.drown(2, 100, 1));
        due("two days", 5, x.count(3));
        long seed = 1;
        for (int day = 4; day <= 5; day++) {
            for (int isle = 0; isle < 2; isle++) {
                seed = seed * 6364136223846793005L + 1442695040888963407L;
                seed = seed * 6364136223846793005L + 1442695040888963407L;
                due("taboo drawn", 1 + (seed >>> 33) % 12, x.taboo(isle, day));
            }
        }
        due("not for the day ahead", 7, x.taboo(0, 3));
        due("days 0", -1, x.drown(0, 0, 0));
        due("days 100", -1, x.drown(100, 0, 0));
        due("risk -1", -1, x.drown(1, -1, 0));
        due("risk 101", -1, x.drown(1, 101, 0));
        due("as it was", 5, x.count(3));
        due("up to 20", 16, x.drown(99, 100, Long.MIN_VALUE));
        due("99 stays", 99, x.count(3));
        due("20", 20, x.count(4));
        due("none more", 0, x.drown(1, 100, 0));
        due("no isles", -1, new TabooIsles().drown(1, 1, 1));
    }

    // 28
    private static void say() {
        TabooIsles x = Check.isles(THREE);
        due("1000", -1, x.say(0, 1000));
        due("-1", -1, x.say(0, -1));
        due("no isle", -1, x.say(3, 1));
        for (int k = 1; k <= 40; k++) {
            due("said " + k, k, x.say(k % 3, k == 7 ? 999 : 0));
        }
        due("no more", -1, x.say(0, 1));
        due("40", 40, x.count(5));
    }

    // 29
    private static void breach() {
        TabooIsles x = Check.isles(THREE);
        due("none said", 0, x.breach(-1));
        due("none", -1, x.breach(0));
        x.say(0, 7);
        x.say(0, 5);
        x.today(3);
        x.say(0, 5);
        x.say(1, 4);
        due("two", 2, x.breach(-1));
        due("the first", 0, x.breach(0));
        due("the second", 3, x.breach(1));
        due("no third", -1, x.breach(2));
        x.change(0, 3, 5);
        x.today(0);
        due("by changes told now", 3, x.breach(-1));
        due("not that of day 0", 2, x.breach(1));
        x.change(0, 0, 5);
        due("day 0 is another", 1, x.breach(0));
        due("-2", -1, x.breach(-2));
        due("no isles", -1, new TabooIsles().breach(-1));
    }

    // 30
    private static void fines() {
        TabooIsles x = Check.isles(THREE);
        due("none", 0, x.fines(0));
        x.say(0, 7);
        x.say(0, 7);
        x.say(0, 8);
        x.say(1, 7);
        due("14", 14, x.fines(0));
        due("no breach", 0, x.fines(1));
        x.change(1, 0, 7);
        due("7", 7, x.fines(1));
        due("no isle", -1, x.fines(3));
        due("no isle", -1, x.fines(-1));
    }

    // 31
    private static void safe() {
        TabooIsles x = Check.isles("1,4,0;ab1");
        x.change(0, 2, 2);
        x.change(0, 4, 3);
        due("today", 2, x.safe(0, 0));
        due("day 1", 2, x.safe(0, 1));
        due("day 2", 3, x.safe(0, 2));
        due("day 4", 4, x.safe(0, 4));
        x.today(4);
        due("from day 4", 1, x.safe(0, 99));
        x.today(99);
        due("no days above", 1, x.safe(0, 99));
        due("n 100", -1, x.safe(0, 100));
        due("n -1", -1, x.safe(0, -1));
        due("no isle", -1, x.safe(3, 0));
        Check.customs(x, 2, "y:n<999|d=50?1");
        due("the last", 999, x.safe(2, 0));
        x.today(49);
        due("none to 999", -1, x.safe(2, 1));
        due("the last", 999, x.safe(2, 0));
    }

    // 32
    private static void game() {
        TabooIsles x = Check.isles("7,4,0;ab1");
        due("say the goal", 1, x.game(2, 3, 3, 0, 0));
        due("3", 3, x.game(2, 3, 3, 0, 1));
        due("lost", 0, x.game(2, 3, 4, 0, 0));
        due("no move", -1, x.game(2, 3, 4, 0, 1));
        due("from 2", 4, x.game(2, 3, 4, 2, 1));
        due("to 4", 4, x.game(2, 3, 12, 1, 1));
        due("over the taboo", -1, x.game(1, 1, 9, 3, 1));
        due("he can say nothing", 3, x.game(1, 1, 9, 2, 1));
        due("the goal is taboo", 0, x.game(0, 1, 7, 6, 0));
        due("from the taboo", 1, x.game(0, 1, 8, 7, 0));
        due("200", 2, x.game(2, 9, 192, 0, 1));
        due("goal 1", 1, x.game(2, 1, 1, 0, 1));
        due("goal 200", 0, x.game(2, 9, 200, 0, 0));
        due("reach 0", -1000000, x.game(2, 0, 9, 0, 0));
        due("reach 10", -1000000, x.game(2, 10, 9, 0, 0));
        due("goal 0", -1000000, x.game(2, 1, 0, 0, 0));
        due("goal 201", -1000000, x.game(2, 1, 201, 0, 0));
        due("from goal", -1000000, x.game(2, 1, 9, 9, 0));
        due("from -1", -1000000, x.game(2, 1, 9, -1, 0));
        due("no such", -1000000, x.game(2, 1, 9, 0, 2));
        due("no isle", -1000000, x.game(3, 1, 9, 0, 0));
    }

    // 33
    private static void spoken() {
        TabooIsles x = Check.customs(Check.isles("7,4,0;ab1"), 2, "y:n>2?1");
        due("7", 6, x.spoken(0, 7));
        due("8", 8, x.spoken(0, 8));
        due("999", 2, x.spoken(2, 999));
        due("0", 0, x.spoken(2, 0));
        Check.customs(x, 1, "y:1");
        due("all", 0, x.spoken(1, 999));
        due("1000", -1, x.spoken(0, 1000));
        due("-1", -1, x.spoken(0, -1));
        due("no isle", -1, x.spoken(3, 1));
    }

    // 34
    private static void carried() {
        TabooIsles x = Check.isles("7,6,5;ab1");
        due("a alone", 6, x.carried(7, 0, 1));
        due("a, b", 5, x.carried(7, 1, 2));
        due("b, a", 6, x.carried(7, 10, 2));
        due("a, b, c", 4, x.carried(7, 12, 3));
        due("c, b, a", 6, x.carried(7, 210, 3));
        due("a, a", 6, x.carried(7, 0, 8));
        due("eight", 4, x.carried(7, 1212, 8));
        due("more digits than told", -1, x.carried(7, 100, 2));
        due("no isle", -1, x.carried(7, 13, 2));
        due("many 0", -1, x.carried(7, 0, 0));
        due("many 9", -1, x.carried(7, 0, 9));
        due("row -1", -1, x.carried(7, -1, 1));
        due("row most", -1, x.carried(7, MOST, 8));
        due("number 1000", -1, x.carried(1000, 0, 1));
        due("number -1", -1, x.carried(-1, 0, 1));
        due("no isles", -1, new TabooIsles().carried(1, 0, 1));
    }

    // 35
    private static void near() {
        TabooIsles x = Check.customs(Check.isles("7,4,0;ab1"), 2, "y:n>10&n<20?1;y:n>29?1");
        due("itself", 10, x.near(2, 10, 2));
        due("unpaid", 10, x.near(2, 15, 2));
        due("unpaid", 10, x.near(2, 200, 2));
        x.hand(20);
        due("the lower of two", 10, x.near(2, 15, 2));
        due("the nearer", 20, x.near(2, 16, 2));
        due("the last", 29, x.near(2, 200, 2));
        due("0", -1, x.near(2, 0, 2));
        due("201", -1, x.near(2, 201, 2));
        due("rules", -1, x.near(2, 1, 8));
        due("no isle", -1, x.near(3, 1, 0));
        Check.customs(x, 1, "y:1");
        due("none can be", -1, x.near(1, 5, 2));
        due("1 for 2, 2 is the taboo", 1, near12());
    }

    private static int near12() {
        TabooIsles x = Check.customs(Check.isles("0,0,0;ab1"), 0, "y:n>1?1");
        due("199 down", 1, x.near(0, 200, 2));
        Check.customs(x, 1, "y:n<11?1");
        x.hand(20);
        // the first part is 11 at least, and there are 11 at least
        due("20 up", 21, x.near(1, 1, 6));
        x = Check.isles("2,1;ab1");
        due("up from 1", 2, x.near(1, 1, 2));
        return x.near(0, 2, 2);
    }

    // 36
    private static void joint() {
        TabooIsles x = Check.isles("9,8,0;ab1");
        due("9 on one", 2, x.joint(0, 2, 9, 1));
        due("16: no 9, no 8", 3, x.joint(0, 1, 16, 1));
        due("either way", 3, x.joint(1, 0, 16, 1));
        due("totals", 3, x.joint(0, 1, 17, 3));
        due("9 itself", -1, x.joint(2, 0, 9, 2));
        due("counts", 10, x.joint(0, 1, 67, 4));
        due("alike", -1, x.joint(1, 1, 5, 0));
        due("no isle", -1, x.joint(0, 3, 5, 0));
        due("no isle", -1, x.joint(-1, 0, 5, 0));
        due("sum 0", -1, x.joint(0, 1, 0, 0));
        due("sum 201", -1, x.joint(0, 1, 201, 0));
        due("rules 8", -1, x.joint(0, 1, 5, 8));
    }

    // 37
    private static void worst() {
        TabooIsles x = Check.isles("7,4,0;ab1");
        due("no rules", 1, x.worst(0, 0, 0));
        due("none unpaid", 0, x.worst(0, 0, 1));
        x.hand(1);
        due("no ones", 1, x.worst(0, 1, 0));
        due("all", 200, x.worst(0, 1, 1));
        x.hand(9);
        Check.customs(x, 2, "y:t=13&n>5?1");
        due("the custom by the taboo", 13, x.worst(2, 2, 0));
        due("195", 195, x.worst(2, 2, 1));
        due("as it was", 0, x.taboo(2, 0));
        Check.customs(x, 1, "y:t=30?1");
        due("the last taboo", 30, x.worst(1, 3, 0));
        due("all sums", 200, x.worst(1, 3, 1));
        Check.customs(x, 0, "y:t=31?1");
        due("31 is none of them", 1, x.worst(0, 2, 0));
        due("the taboo alone", 1, x.worst(0, 2, 1));
        due("what 2", -1, x.worst(2, 2, 2));
        due("what -1", -1, x.worst(2, 2, -1));
        due("rules 8", -1, x.worst(2, 8, 0));
        due("no isle", -1, x.worst(3, 0, 0));
    }

    // 38
    private static void owes() {
        TabooIsles x = Check.isles("7,4,7;ab1");
        due("nobody", -1, x.owes());
        x.change(1, 0, 1);
        x.say(1, 1);
        due("1 is owed", 1, x.owes());
        x = Check.isles("7,4,7;ab1");
        x.say(2, 7);
        due("c", 2, x.owes());
        x.say(0, 7);
        due("the lowest", 0, x.owes());
        x.say(1, 4);
        x.say(1, 4);
        due("b", 1, x.owes());
        due("no isles", -1, new TabooIsles().owes());
    }

    // 39
    private static void calendar() {
        TabooIsles x = Check.isles("1,30,0;ab1");
        due("from 2 on", 2, x.calendar(0, 0));
        due("30 days on", 3, x.calendar(0, 30));
        due("without 30", 1, x.calendar(1, 29));
        due("60", 1, x.calendar(2, 60));
        x.change(2, 3, 4);
        x.change(2, 4, 5);
        due("day 3", 5, x.calendar(2, 3));
        due("day 4", 6, x.calendar(2, 4));
        x.today(3);
        due("begins today", 1, x.calendar(2, 0));
        due("k 61", -1, x.calendar(2, 61));
        due("k -1", -1, x.calendar(2, -1));
        due("no isle", -1, x.calendar(3, 0));
        Check.customs(x, 2, "y:d=5?1;y:d>98&n>1?1");
        due("yet", 2, x.calendar(2, 1));
        due("all forbidden on day 5", -1, x.calendar(2, 2));
        due("behind it too", -1, x.calendar(2, 9));
        x.today(98);
        due("98", 1, x.calendar(2, 0));
        due("1 alone", 1, x.calendar(2, 1));
        due("above 99 as 99", 1, x.calendar(2, 60));
    }

    // 40
    private static void twins() {
        TabooIsles x = Check.isles("7,4,0;ab1");
        due("the first", 1, x.twins(0, 2, 0));
        due("six", 6, x.twins(0, 2, 8));
        due("either way", 6, x.twins(2, 0, 8));
        due("60", true, x.twins(2, 0, 60) >= 6);
        due("alike", -1, x.twins(1, 1, 3));
        due("no isle", -1, x.twins(0, 3, 3));
        due("k 61", -1, x.twins(0, 1, 61));
        due("k -1", -1, x.twins(0, 1, -1));
        Check.customs(x, 2, "y:d=2?1");
        due("still", 2, x.twins(0, 2, 1));
        due("no calendar", -1, x.twins(0, 2, 2));
        due("no calendar of one", -1, x.twins(2, 0, 3));
    }

    // 41, 42
    private static void imageAndBack() {
        TabooIsles x = Check.isles(THREE);
        due("no image", -1, x.back());
        x.today(4);
        x.change(0, 4, 2);
        x.say(0, 2);
        due("image", 4, x.image());
        x.today(9);
        x.change(0, 9, 3);
        x.say(0, 3);
        x.hand(3);
        x.good();
        due("back", 4, x.back());
        int[] want = {3, 0, 0, 4, 1, 1, 1, 3};
        for (int what = 0; what < 8; what++) {
            due("count " + what + " behind back", want[what], x.count(what));
        }
        due("its change", 2, x.taboo(0, 99));
        x.change(0, 4, 8);
        x.say(1, 4);
        due("again", 4, x.back());
        due("its change", 2, x.taboo(0, 99));
        due("its breach", 2, x.fines(0));
        due("nothing more", 0, x.fines(1));
        x.today(50);
        due("another image", 50, x.image());
        x.today(1);
        due("instead of the one ahead", 50, x.back());
        Check.tell(x, 0, "1,2;ab1");
        due("of these isles", -1, x.back());
        due("no isles", -1, new TabooIsles().image());
    }

    // 43
    private static void count() {
        TabooIsles x = Check.customs(Check.isles(THREE), 0, "y:0");
        Check.tape(x, "abcde");
        x.today(8);
        x.change(0, 0, 1);
        x.change(0, 0, 1);
        x.say(0, 0);
        x.say(0, 0);
        x.say(0, 0);
        x.good();
        x.hand(11);
        int[] want = {3, 1, 5, 8, 2, 3, 1, 11};
        for (int what = 0; what < 8; what++) {
            due("count " + what, want[what], x.count(what));
        }
        due("count 8", -1000000, x.count(8));
        due("count -1", -1000000, x.count(-1));
        due("count least", -1000000, x.count(LEAST));
    }
}

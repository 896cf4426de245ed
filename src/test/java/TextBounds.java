/** Promises 1 to 5: a new object, the tape, and where texts may go on. */
final class TextBounds extends Bounds {
    private static final String DIGITS = "0123456789";
    private static final String ATOMS = DIGITS + "ntslid[";
    private static final String UNITS = ATOMS + "(!";
    private static final String JOINS = "+-*/";
    private static final String ALL_WAYS = "ab1,ac2,ad3,ae4,af5,bc6,bd7,be8,bf9,cd1,ce2,cf3,de4,df5,ef6";

    private TextBounds() {
    }

    private static int fault(int sort, String text) {
        return Check.tape(new TabooIsles(), text).fault(sort);
    }

    private static void sound(int sort, String text) {
        due("fault " + sort + " of " + text, -1, fault(sort, text));
    }

    private static void faulty(int sort, String text, int at) {
        due("fault " + sort + " of " + text, at, fault(sort, text));
    }

    /** Of all bytes the blank and these signs go on behind a text, no others. */
    private static void goesOn(int sort, String text, String signs) {
        for (int sign = 1; sign <= 255; sign++) {
            boolean due = sign == ' ' || signs.indexOf(sign) >= 0;
            int at = fault(sort, text + (char) sign);
            boolean on = at == -1 || at == text.length() + 1;
            due("byte " + sign + " behind " + text + " goes on", due, on);
            due("byte " + sign + " behind " + text + " is the fault", !due, at == text.length());
        }
    }

    /** Each beginning of a sound text ends too early, but those of these lengths. */
    private static void beginnings(int sort, String text, int... whole) {
        for (int length = 0; length <= text.length(); length++) {
            int want = length;
            for (int w : whole) {
                want = w == length ? -1 : want;
            }
            faulty(sort, text.substring(0, length), want);
        }
    }

    // ---- 1

    static void promise01NewObjectCountsNothing() {
        TabooIsles x = new TabooIsles();
        int[] first = {0, 0, 0, 0, 0, 0, 0, 9};
        for (int what = 0; what < 8; what++) {
            due("count " + what, first[what], x.count(what));
        }
    }

    static void promise01NewObjectHasNoIsles() {
        TabooIsles x = new TabooIsles();
        CHECK.dueNoSuch(x, 0, 0);
        due("way", -1, x.way(0, 1));
        due("custom", false, x.custom(0, -1));
        due("forbidden", -1, x.forbidden(0, 0, 0));
        due("pay", -1, x.pay(0, 1, 0, -1));
        due("ways", -1, x.ways(0, 1, 0, 1));
        due("cant", -1, x.cant(0, 0, -1));
        due("family", -1, x.family(0, 1, -1));
        due("splits", -1, x.splits(0, 1));
        due("date", -1, x.date(0, -1));
        due("debt", -1, x.debt(0, 1, 0));
        due("bit", -1, x.bit(0, 0, -1));
        due("likely", -1, x.likely(0, 0, 0));
        due("good", -1, x.good());
        due("price", false, x.price(0, 0, 1));
        due("deal", -1, x.deal(0, 0, 1, 0));
        due("gain", HIDDEN, x.gain(0, 0, 1, 0, -1));
        due("change", -1, x.change(0, 0, 0));
        due("drown", -1, x.drown(1, 0, 0));
        due("say", -1, x.say(0, 0));
    }

    static void promise01NewObjectHasNoIslesToAskOf() {
        TabooIsles x = new TabooIsles();
        due("breach", -1, x.breach(-1));
        due("fines", -1, x.fines(0));
        due("safe", -1, x.safe(0, 0));
        due("game", HIDDEN, x.game(0, 1, 1, 0, 0));
        due("spoken", -1, x.spoken(0, 0));
        due("carried", -1, x.carried(0, 0, 1));
        due("near", -1, x.near(0, 1, 0));
        due("joint", -1, x.joint(0, 1, 1, 0));
        due("worst", -1, x.worst(0, 0, 0));
        due("owes", -1, x.owes());
        due("calendar", -1, x.calendar(0, 0));
        due("twins", -1, x.twins(0, 1, 0));
        due("image", -1, x.image());
        due("back", -1, x.back());
        due("fault of isles", 0, x.fault(0));
        due("fault of a custom", 0, x.fault(1));
        due("text of isles", -1, x.text(0));
        due("text of a custom", -1, x.text(1));
    }

    static void promise01NewObjectTakesWhatNeedsNoIsles() {
        TabooIsles x = new TabooIsles();
        due("feed", 1, x.feed(0, 0, 0, 0, 'y'));
        due("end", true, x.end(0));
        due("hand", true, x.hand(20));
        due("weight", true, x.weight(1, 0));
        due("today", true, x.today(99));
        due("custom", 0, Check.tell(x, 1, "y:0"));
        int[] now = {0, 1, 0, 99, 0, 0, 0, 20};
        for (int what = 0; what < 8; what++) {
            due("count " + what, now[what], x.count(what));
        }
    }

    static void promise01NewObjectKnowsNothingOfAnother() {
        TabooIsles ahead = new TabooIsles();
        told();
        full();
        Asked.alike(CHECK, ahead, new TabooIsles());
        TabooIsles x = told();
        full();
        Asked.alike(CHECK, x, told());
    }

    static void promise01NewObjectAnswers512Calls() {
        TabooIsles x = new TabooIsles();
        due("call 1", 7, x.feed(0x312c323b, 0x61623900, 0, 0, 0));
        due("call 2", 2, x.text(0));
        for (int call = 3; call <= 503; call += 5) {
            due("call " + call, 9, x.way(0, 1));
            due("call " + (call + 1), 1, x.fault(0) + 1);
            due("call " + (call + 2), -1, x.text(1));
            due("call " + (call + 3), 1, x.worst(0, 0, 0));
            due("call " + (call + 4), 0, x.gain(0, 999, 6, 3, -1));
        }
        for (int call = 508; call <= 511; call++) {
            due("call " + call, 2, x.count(0));
        }
        due("call 512: neither one nor two parts", 3, x.pay(1, 12, 7, -1));
    }

    // ---- 2

    static void promise02FeedOfTwentyBytesAtMost160() {
        TabooIsles x = new TabooIsles();
        for (int k = 1; k <= 8; k++) {
            due("feed " + k, 20 * k, x.feed(0x01010101, 0x20202020, 0x7f7f7f7f, 0x80808080, -1));
        }
        due("one byte more", -1, x.feed(0, 0, 0, 0, 1));
        due("twenty more", -1, x.feed(-1, -1, -1, -1, -1));
        due("160 as it was", 160, x.count(2));
    }

    static void promise02FeedTakesThe160thByteNotThe161st() {
        for (int place = 0; place < 20; place++) {
            int[] w = new int[5];
            w[place / 4] = 0x80 << 8 * (3 - place % 4);
            TabooIsles x = Check.tape(new TabooIsles(), BLANKS);
            x.end(159);
            due("160th, place " + place, 160, x.feed(w[0], w[1], w[2], w[3], w[4]));
            due("161st, place " + place, -1, x.feed(w[0], w[1], w[2], w[3], w[4]));
            due("160 as it was", 160, x.count(2));
        }
    }

    static void promise02FeedOfTooManyTakesNoneOfThem() {
        TabooIsles x = Check.tape(new TabooIsles(), "1,2;ab1" + BLANKS);
        x.end(150);
        due("eleven more", -1, x.feed(0x2c2c2c2c, 0x2c2c2c2c, 0x2c2c2c00, 0, 0));
        due("150 as it was", 150, x.count(2));
        due("no comma came", -1, x.fault(0));
        due("ten more", 160, x.feed(0x20202020, 0x20202020, 0x20200000, 0, 0));
        due("ten blanks came", -1, x.fault(0));
        x.end(141);
        due("twenty more", -1, x.feed(-1, -1, -1, -1, -1));
        x.end(140);
        due("twenty more", 160, x.feed(-1, -1, -1, -1, -1));
    }

    static void promise02FeedLeavesOutBytesOf0() {
        TabooIsles x = new TabooIsles();
        due("none", 0, x.feed(0, 0, 0, 0, 0));
        due("seven of twenty", 7, x.feed(0x31002c00, 0x00320000, 0x0000003b, 0x00616200, 0x00000031));
        due("they stand side by side", -1, x.fault(0));
        Check.tape(x, BLANKS);
        due("none more at 160", 160, x.feed(0, 0, 0, 0, 0));
        x.end(158);
        due("two of twenty", 160, x.feed(0x20000000, 0, 0, 0, 0x20));
    }

    static void promise02FeedPutsTheHighestFirst() {
        TabooIsles x = new TabooIsles();
        // " 12,34,56,78;ab1,cd2"
        due("twenty", 20, x.feed(0x2031322c, 0x33342c35, 0x362c3738, 0x3b616231, 0x2c636432));
        due("four isles", 4, x.text(0));
        int[] taboos = {12, 34, 56, 78};
        for (int isle = 0; isle < 4; isle++) {
            due("taboo " + isle, taboos[isle], x.taboo(isle, 0));
        }
        due("ab", 1, x.way(0, 1));
        due("cd", 2, x.way(2, 3));
    }

    static void promise02FeedComesBehindWhatIsThere() {
        TabooIsles x = new TabooIsles();
        due("1,2", 3, x.feed(0, 0, 0, 0, 0x312c32));
        due(";ab", 6, x.feed(0x3b616200, 0, 0, 0, 0));
        due("9", 7, x.feed(0, 0, 0x3900, 0, 0));
        due("two isles", 2, x.text(0));
        due("way", 9, x.way(0, 1));
        due("the tape begins anew", 1, x.feed('y', 0, 0, 0, 0));
    }

    // ---- 3

    static void promise03EndWithinTheTapeAlone() {
        bounds("end of none", 0, 0, n -> new TabooIsles().end(n));
        bounds("end of 7", 0, 7, n -> Check.tape(new TabooIsles(), "1,2;ab1").end(n));
        bounds("end of 160", 0, 160, n -> Check.tape(new TabooIsles(), BLANKS).end(n));
    }

    static void promise03EndKeepsTheFirstBytes() {
        String text = "1,2;ab1";
        for (int n = 0; n <= 7; n++) {
            TabooIsles x = Check.tape(new TabooIsles(), text);
            due("end " + n, true, x.end(n));
            due("count behind end " + n, n, x.count(2));
            Check.more(x, text.substring(n));
            due("the rest again, behind " + n, -1, x.fault(0));
        }
    }

    static void promise03EndRefusedKeepsTheTape() {
        TabooIsles x = Check.tape(new TabooIsles(), "1,2;ab1");
        for (int n : new int[] {-1, 8, 160, 161, LEAST, MOST}) {
            due("end " + n, false, x.end(n));
            due("count", 7, x.count(2));
            due("fault", -1, x.fault(0));
        }
        x.end(6);
        due("the byte behind the end is gone", false, x.end(7));
    }

    // ---- 4: which sorts there are

    static void promise04FaultOfTwoSortsAlone() {
        for (String text : new String[] {"", "1,2;ab1", "y:1", BLANKS}) {
            bounds("sort", 0, 1, sort -> fault(sort, text) != -2);
        }
    }

    static void promise04FaultOfAnEmptyTape() {
        faulty(0, "", 0);
        faulty(1, "", 0);
        faulty(0, BLANKS, 160);
        faulty(1, BLANKS, 160);
    }

    // ---- 4: ISLES

    static void promise04IslesTwoToSix() {
        faulty(0, "1;ab1", 1);
        sound(0, "1,2;ab1");
        sound(0, "1,2,3;ab1");
        sound(0, "1,2,3,4;ab1");
        sound(0, "1,2,3,4,5;ab1");
        sound(0, "1,2,3,4,5,6;ab1");
        faulty(0, "1,2,3,4,5,6,7;ab1", 11);
        goesOn(0, "1", DIGITS + ",");
        goesOn(0, "12 ", ",");
        goesOn(0, "1,2", DIGITS + ",;");
        goesOn(0, "1,2,3,4,5", DIGITS + ",;");
        goesOn(0, "1,2,3,4,5,6", DIGITS + ";");
    }

    static void promise04TabooOfOneOrTwoDigits() {
        sound(0, "0,00;ab1");
        sound(0, "99,9;ab1");
        faulty(0, "100,2;ab1", 2);
        faulty(0, "007,2;ab1", 2);
        faulty(0, "1,100;ab1", 4);
        faulty(0, ",2;ab1", 0);
        faulty(0, "1,,2;ab1", 2);
        faulty(0, "1,;ab1", 2);
        faulty(0, "-1,2;ab1", 0);
        goesOn(0, "", DIGITS);
        goesOn(0, "12", ",");
        goesOn(0, "1,", DIGITS);
        goesOn(0, "1,23", ",;");
        goesOn(0, "1,2,3,4,5,66", ";");
    }

    static void promise04WaysOneAtLeast() {
        faulty(0, "1,2;", 4);
        faulty(0, "1,2", 3);
        sound(0, "1,2;ab1");
        faulty(0, "1,2;,ab1", 4);
        faulty(0, "1,2;ab1,", 8);
        faulty(0, "1,2;ab1,,", 8);
        faulty(0, "1,2;ab1;", 7);
        goesOn(0, "1,2;ab1", ",");
    }

    static void promise04WayOfLettersThatAreThere() {
        goesOn(0, "1,2;", "ab");
        goesOn(0, "1,2,3,4,5;", "abcde");
        goesOn(0, "1,2,3,4,5,6;", "abcdef");
        goesOn(0, "1,2,3,4,5,6;ab1,", "abcdef");
        goesOn(0, "1,2,3,4,5,6;f", "abcde");
    }

    static void promise04WayOfTwoUnlike() {
        faulty(0, "1,2;aa1", 5);
        faulty(0, "1,2,3,4,5,6;ff1", 13);
        goesOn(0, "1,2;a", "b");
        goesOn(0, "1,2;b", "a");
        goesOn(0, "1,2,3,4,5,6;a", "bcdef");
    }

    static void promise04WayOfEachPairOnce() {
        faulty(0, "1,2;ab1,ab2", 9);
        faulty(0, "1,2;ab1,ba2", 9);
        faulty(0, "1,2,3;ab1,bc1,cb1", 15);
        goesOn(0, "1,2,3;ab1,a", "c");
        goesOn(0, "1,2,3;ab1,b", "c");
        goesOn(0, "1,2,3;ab1,c", "ab");
        goesOn(0, "1,2,3;ab1,bc1,ca9,", "abc");
    }

    static void promise04WaysOfAllPairsAndNotOneMore() {
        String all = "1,2,3,4,5,6;" + ALL_WAYS;
        sound(0, all);
        due("two isles have one pair", 8, fault(0, "1,2;ab1,"));
        faulty(0, "1,2;ab1,a", 9);
        goesOn(0, "1,2;ab1,", "ab");
        goesOn(0, "1,2;ab1,a", "");
        goesOn(0, all, ",");
        goesOn(0, all + ",", "abcdef");
        for (char letter = 'a'; letter <= 'f'; letter++) {
            goesOn(0, all + "," + letter, "");
        }
    }

    static void promise04DaysOneToNine() {
        goesOn(0, "1,2;ab", "123456789");
        goesOn(0, "1,2;ab9", ",");
        faulty(0, "1,2;ab0", 6);
        faulty(0, "1,2;ab10", 7);
        faulty(0, "1,2;ab01", 6);
        for (int days = 1; days <= 9; days++) {
            sound(0, "1,2;ab" + days);
        }
    }

    static void promise04IslesThatEndTooEarly() {
        beginnings(0, "12,3;ab1", 8);
        beginnings(0, "1,2,3;ab1,cb2", 9, 13);
    }

    // ---- 4: CUSTOMS

    static void promise04ClausesOneAtLeast() {
        faulty(1, "", 0);
        faulty(1, ";", 0);
        sound(1, "y:1");
        sound(1, "y:1;y:n=1?2");
        faulty(1, "y:1;", 4);
        faulty(1, "y:1;;", 4);
        goesOn(1, "", "y");
        goesOn(1, "y", ":");
        goesOn(1, "y:n;", "y");
        goesOn(1, "y:n=n?n;", "y");
        goesOn(1, "y:n=n?n;y", ":");
    }

    static void promise04ClausesAsManyAsTheTapeHolds() {
        String forty = "y:1;".repeat(39) + "y:1";
        sound(1, forty);
        faulty(1, forty + ";", 160);
        faulty(1, forty + "1", -1);
        faulty(1, forty + "y", 159);
    }

    static void promise04NumberOfOneToFourDigits() {
        sound(1, "y:1");
        sound(1, "y:9999");
        sound(1, "y:0000");
        faulty(1, "y:12345", 6);
        faulty(1, "y:00001", 6);
        faulty(1, "y:n=12345?1", 8);
        faulty(1, "y:n=1?12345", 10);
        faulty(1, "y:[12345]", 7);
        goesOn(1, "y:123", DIGITS + JOINS + "=<>;");
        goesOn(1, "y:1234", JOINS + "=<>;");
    }

    static void promise04AtomsOfSixLetters() {
        goesOn(1, "y:", UNITS);
        for (String join : new String[] {"+", "-", "*", "/", "=", "<", ">"}) {
            goesOn(1, "y:n" + join, ATOMS);
        }
        goesOn(1, "y:n", JOINS + "=<>;");
        goesOn(1, "y:1 ", JOINS + "=<>;");
        goesOn(1, "y:[", ATOMS);
        goesOn(1, "y:[n", JOINS + "]");
        goesOn(1, "y:[n]", JOINS + "=<>;");
        goesOn(1, "y:n=n?", ATOMS);
        goesOn(1, "y:n=n?n", JOINS + ";");
        goesOn(1, "y:n=n?[n]", JOINS + ";");
    }

    static void promise04ConditionOfUnits() {
        goesOn(1, "y:n=n", JOINS + "&|?");
        goesOn(1, "y:n=[n]", JOINS + "&|?");
        goesOn(1, "y:n=n&", UNITS);
        goesOn(1, "y:n=n|", UNITS);
        goesOn(1, "y:n=n&n", JOINS + "=<>");
        goesOn(1, "y:n=n|n", JOINS + "=<>");
        goesOn(1, "y:!", UNITS);
        goesOn(1, "y:!n", JOINS + "=<>");
        goesOn(1, "y:!n=n", JOINS + "&|?");
        goesOn(1, "y:(", UNITS);
        goesOn(1, "y:(n", JOINS + "=<>");
        goesOn(1, "y:(n=n", JOINS + "&|)");
        goesOn(1, "y:(n=n)", "&|?");
        goesOn(1, "y:!(n=n)", "&|?");
        goesOn(1, "y:(n=n&(n=n)", "&|)");
        goesOn(1, "y:(!n=n|n=n", JOINS + "&|)");
    }

    static void promise04SixWithinOneAnotherNotSeven() {
        for (String open : new String[] {"[", "(", "!"}) {
            goesOn(1, "y:" + open.repeat(5), open.equals("[") ? ATOMS : UNITS);
            goesOn(1, "y:" + open.repeat(6), DIGITS + "ntslid");
        }
        goesOn(1, "y:(!(!([", DIGITS + "ntslid");
        goesOn(1, "y:(!(!(", UNITS);
        goesOn(1, "y:n=n?[[[[[[", DIGITS + "ntslid");
        goesOn(1, "y:n=n|!(!(!(n=", DIGITS + "ntslid");
        goesOn(1, "y:n=n&n=[[[[[[", DIGITS + "ntslid");
        sound(1, "y:[[[[[[n]]]]]]");
        sound(1, "y:((((((n=n))))))?n");
        sound(1, "y:!!!!!!n=n?n");
    }

    static void promise04SixWithinOneAnotherAgainBehindThem() {
        sound(1, "y:[[[[[[n]]]]]]+[[[[[[n]]]]]]");
        sound(1, "y:[[[[[[n]]]]]]=[[[[[[n]]]]]]?[[[[[[n]]]]]]");
        sound(1, "y:!!!!!!n=n&!!!!!!n=n|((((((n=n))))))?n;y:[[[[[[n]]]]]]");
        goesOn(1, "y:[[[[[[n]", JOINS + "]");
        goesOn(1, "y:[[[[[[n]+", ATOMS);
        goesOn(1, "y:!!!!!!n=n&", UNITS);
        goesOn(1, "y:((((((n=n)&", UNITS);
        goesOn(1, "y:(((((!n=n&", UNITS);
    }

    static void promise04SixWithinOneAnotherBehindOtherSigns() {
        for (String sign : new String[] {"+", "-", "*", "/"}) {
            goesOn(1, "y:[[[[[[n" + sign, DIGITS + "ntslid");
            goesOn(1, "y:[[[[[[n*n+n" + sign, DIGITS + "ntslid");
            goesOn(1, "y:[[[[[n" + sign, ATOMS);
            sound(1, "y:n" + sign + "[[[[[[n]]]]]]");
            sound(1, "y:n*n+n" + sign + "[[[[[[n]]]]]]=n?1");
        }
        for (String sign : new String[] {"&", "|"}) {
            goesOn(1, "y:((((((n=n" + sign, DIGITS + "ntslid");
            goesOn(1, "y:((((((n=n&n=n|n=n" + sign, DIGITS + "ntslid");
            goesOn(1, "y:((((((n=n|n=n&n=n" + sign, DIGITS + "ntslid");
            goesOn(1, "y:(((((n=n" + sign, UNITS);
            sound(1, "y:n=n" + sign + "!!!!!!n=n?1");
            sound(1, "y:n=n|n=n" + sign + "((((((n=n))))))?1");
            sound(1, "y:n=n&n=n" + sign + "n=[[[[[[n]]]]]]?1");
        }
        for (String sign : new String[] {"=", "<", ">"}) {
            goesOn(1, "y:((((((n" + sign, DIGITS + "ntslid");
            goesOn(1, "y:!!!!!!n" + sign, DIGITS + "ntslid");
            goesOn(1, "y:!!!!!n" + sign, ATOMS);
            sound(1, "y:n" + sign + "[[[[[[n]]]]]]?1");
        }
    }

    static void promise04CustomsThatEndTooEarly() {
        beginnings(1, "y:!(n=12|[s-3]*2<t)?l+12", 21, 23, 24);
        beginnings(1, "y:n;y:1=d?i/[2]", 3, 7, 11, 15);
    }

    // ---- 4: blanks

    static void promise04BlanksBetweenAllSigns() {
        String isles = "12,3,0;ab1,bc2";
        for (int at = 0; at <= isles.length(); at++) {
            faulty(0, isles.substring(0, at) + " " + isles.substring(at), at == 1 ? 2 : -1);
        }
        String custom = "y:!(n=12|[s-3]*2<t)?l+123;y:d/i";
        for (int at = 0; at <= custom.length(); at++) {
            int want = at == 7 || at == 23 || at == 24 ? at + 1 : -1;
            faulty(1, custom.substring(0, at) + "  " + custom.substring(at), want == -1 ? -1 : want + 1);
        }
    }

    static void promise04BlanksUpToTheWholeTape() {
        String isles = BLANKS.substring(7) + "1,2;ab1";
        sound(0, isles);
        sound(0, "1,2;ab1" + BLANKS.substring(7));
        sound(1, BLANKS.substring(3) + "y:1");
        sound(1, "y:" + BLANKS.substring(3) + "1");
        due("text of 160 bytes", 2, Check.tell(new TabooIsles(), 0, isles));
        faulty(0, "1,2;ab" + BLANKS.substring(6), 160);
    }

    static void promise04NoOtherByteIsABlank() {
        for (int sign : new int[] {1, 9, 10, 13, 31, 33, 95, 127, 160, 224, 255}) {
            faulty(0, (char) sign + "1,2;ab1", 0);
            faulty(0, "1,2;ab1" + (char) sign, 7);
            faulty(1, "y:1" + (char) sign, 3);
        }
    }

    // ---- 5

    static void promise05TextOfTwoSortsAlone() {
        due("isles", 2, Check.tell(new TabooIsles(), 0, "1,2;ab1"));
        due("a custom", 0, Check.tell(new TabooIsles(), 1, "y:1"));
        for (int sort : new int[] {-2, -1, 2, 3, 256, LEAST, MOST}) {
            for (String text : new String[] {"1,2;ab1", "y:1"}) {
                TabooIsles x = Check.tape(new TabooIsles(), text);
                due("sort " + sort, -1, x.text(sort));
                due("its tape stays", text.length(), x.count(2));
            }
        }
        due("isles are no custom", -1, Check.tell(new TabooIsles(), 1, "1,2;ab1"));
        due("a custom is no isles", -1, Check.tell(new TabooIsles(), 0, "y:1"));
    }

    static void promise05TextOfTwoToSixIsles() {
        String taboos = "0,1,9,10,98,99,5";
        int[] ends = {1, 3, 5, 8, 11, 14, 16};
        int[] first = {0, 1, 9, 10, 98, 99};
        for (int isles = 1; isles <= 7; isles++) {
            TabooIsles x = new TabooIsles();
            boolean taken = isles >= 2 && isles <= 6;
            due(isles + " isles", taken ? isles : -1, Check.tell(x, 0, taboos.substring(0, ends[isles - 1]) + ";ab7"));
            due("count", taken ? isles : 0, x.count(0));
            for (int isle = 0; taken && isle < isles; isle++) {
                due("taboo " + isle, first[isle], x.taboo(isle, 0));
            }
            CHECK.dueNoSuch(x, taken ? isles : 0, 0);
        }
    }

    static void promise05TextOfNumbersWithZerosAndBlanks() {
        TabooIsles x = Check.isles(" 05 , 00 ,  0 ; b  a 9 , c b 1 ");
        due("05", 5, x.taboo(0, 0));
        due("00", 0, x.taboo(1, 0));
        due("0", 0, x.taboo(2, 0));
        due("ab", 9, x.way(0, 1));
        due("bc", 1, x.way(1, 2));
        Check.customs(x, 2, " y : n = 0010 ? 1 ; y : n = 99? 1");
        due("0010", 1, x.forbidden(2, 10, 0));
        due("99", 1, x.forbidden(2, 99, 0));
        due("9", 0, x.forbidden(2, 9, 0));
    }

    static void promise05TextOfAllWays() {
        TabooIsles x = Check.isles("1,2,3,4,5,6;" + ALL_WAYS);
        int days = 0;
        for (int one = 0; one < 6; one++) {
            due("itself", -1, x.way(one, one));
            for (int other = one + 1; other < 6; other++) {
                due("way", days % 9 + 1, x.way(one, other));
                due("the other way", days % 9 + 1, x.way(other, one));
                days++;
            }
        }
    }

    static void promise05TextTakesTheTape() {
        TabooIsles x = Check.tape(new TabooIsles(), "1,2;ab1" + BLANKS.substring(7));
        due("isles", 2, x.text(0));
        due("the tape is empty", 0, x.count(2));
        due("its fault", 0, x.fault(0));
        due("not once more", -1, x.text(0));
        due("room for 160", 160, Check.tape(x, BLANKS).count(2));
        due("a custom", 0, Check.tell(x, 1, "y:1"));
        due("the tape is empty", 0, x.count(2));
        due("not once more", -1, x.text(1));
    }

    static void promise05TextWithAFaultChangesNothing() {
        for (String text : new String[] {"1;ab1", "8,9;ab4,", "8,9;ab4,ab4", "8,9;ab", "y:1;", "y:n=1", "", " "}) {
            unchanged(() -> Check.tape(told(), text), x -> {
                due("isles " + text, -1, x.text(0));
                due("a custom " + text, -1, x.text(1));
            });
        }
    }

    static void promise05TextTakesFourCustomsNotFive() {
        TabooIsles x = Check.isles(SIX);
        String[] customs = {"y:n=1?1", "y:n=2?1", "y:n=3?1", "y:n=4?1"};
        for (int k = 0; k < 4; k++) {
            due("custom " + k, k, Check.tell(x, 1, customs[k]));
            due("customs", k + 1, x.count(1));
        }
        due("a fifth", -1, Check.tell(x, 1, "y:n=5?1"));
        due("its tape stays", 7, x.count(2));
        due("it is without fault", -1, x.fault(1));
        due("four", 4, x.count(1));
        for (int k = 0; k < 4; k++) {
            due("given", true, x.custom(k, k));
            for (int number = 1; number <= 5; number++) {
                due(number + " by custom " + k, number == k + 1 ? 1 : 0, x.forbidden(k, number, 0));
            }
        }
        due("no fifth", false, x.custom(0, 4));
        due("isles may be told yet", 2, Check.tell(x, 0, TWO));
        due("no fifth behind other isles", -1, Check.tell(x, 1, "y:n=5?1"));
    }

    static void promise05TextOfAFifthChangesNothing() {
        unchanged(() -> Check.tape(full(), "y:1"), x -> due("a fifth", -1, x.text(1)));
    }

    static void promise05TextOfACustomChangesNoIsles() {
        TabooIsles x = Check.tape(told(), "y:n>0?1");
        due("the third", 2, x.text(1));
        due("three isles", 3, x.count(0));
        due("its change", 12, x.taboo(1, 6));
        due("no custom of its own yet", 0, x.forbidden(0, 999, 6));
        due("the custom of c", 1, x.forbidden(2, 41, 6));
        due("today", 6, x.count(3));
    }

    static void promise05TextOfIslesForgetsAllButCustomsHandWeights() {
        TabooIsles x = full();
        x.weight(7, 0);
        due("other isles", 2, x.text(0));
        int[] kept = {2, 4, 0, 0, 0, 0, 0, 20};
        for (int what = 0; what < 8; what++) {
            due("count " + what, kept[what], x.count(what));
        }
        due("no image of these", -1, x.back());
        due("taboo as told", 8, x.taboo(0, 99));
        due("taboo as told", 9, x.taboo(1, 99));
        due("way as told", 4, x.way(0, 1));
        CHECK.dueNoSuch(x, 2, 0);
        due("no custom at first", 0, x.forbidden(0, 29, 0));
        due("no breaches", 0, x.breach(-1));
        due("nobody owes", -1, x.owes());
        x.custom(0, 0);
        due("the weight of 7", 0, x.likely(0, 0, 6));
        due("the weight of 6", 10204, x.likely(0, 0, 5));
    }

    static void promise05TextOfIslesMakesRoomForAll() {
        TabooIsles x = full();
        x.text(0);
        for (int k = 1; k <= 20; k++) {
            due("change", k, x.change(0, 99, k));
        }
        due("no 21st", -1, x.change(0, 99, 1));
        for (int k = 1; k <= 40; k++) {
            due("said", k, x.say(1, k));
        }
        due("no 41st", -1, x.say(1, 1));
        for (int k = 0; k < 3; k++) {
            due("good", k, x.good());
            due("its price is 10 again", 1, x.deal(k, 0, 5, 0));
            x.price(k, 0, 45);
            due("225 can't be paid", 0, x.deal(k, 0, 5, 0));
        }
        due("no fourth", -1, x.good());
    }

    static void promise05TextOfFewerIslesLeavesNoWays() {
        TabooIsles x = Check.isles("1,2,3,4,5,6;" + ALL_WAYS);
        due("two", 2, Check.tell(x, 0, "1,2;ab9"));
        due("six again", 6, Check.tell(x, 0, "1,2,3,4,5,6;ef2"));
        due("ab is gone", -1, x.way(0, 1));
        due("cd is gone", -1, x.way(2, 3));
        due("ef", 2, x.way(4, 5));
        due("nor by a text with a fault", -1, Check.tell(x, 0, "1,2,3,4,5,6;ab1,"));
        due("ab is none", -1, x.way(0, 1));
    }
}

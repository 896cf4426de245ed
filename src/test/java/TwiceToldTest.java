import java.util.NoSuchElementException;
import java.util.Random;

/** Runs of random calls, each asked of the class and of the document told a second time. */
public final class TwiceToldTest {
    private static final String[] ISLES = {
        "7,4,0;ab3,bc2", "1,2;ab1", "13,4,9,7,0,2;ab1,ac2,ad3,ae4,af5,bc6,bd7,be8,bf9,cd1,ce2,cf3,de4,df5,ef6",
        "99,0,5;ab9,ac9,bc9", " 0 , 00 , 01 ; a b 1 , c a 9 ", "3,3,3,3;ab2,bc2,cd2", "10,20,30;ab5,bc5",
        "5,6;ba4"};
    private static final String[] CUSTOMS = {
        "y:n/10*10=n?1", "y:l=t?1", "y:s=t?1;y:n>40&n<50?1", "y:[n+d]/7*7=n+d?1", "y:n>d+i?1", "y:1", "y:n>3?n-5;y:0-1",
        "y:!(n<20|n=25)?1", "y:n*n*n*n-1000000", "y:n/0=0?0;y:5", "y: n > 2 & ! n = 9 ? [ s - l ] ; y : t - 8",
        "y:!!n=t+1|(n=i+2&!d<5)?9999", "y:n-200", "y:9-n", "y:[[[[[[n]]]]]]-[190]", "y:n-[n/2]*2", "y:n<31?1;y:0"};
    private static final String SIGNS = "  0123456789,;abcdefgy:ntslid?!()[]&|=<>+-*/";

    private static Random random;
    private static Check check;
    private static TabooIsles told;
    private static Plain plain;
    private static String run;

    public static void main(String[] args) {
        check = new Check();
        for (int seed = 0; seed < 120 && check.wrong() < 10; seed++) {
            begin(seed, "");
            for (int k = 0; k < 300 && check.wrong() < 10; k++) {
                run = "seed " + seed + " call " + k + " ";
                call(random.nextInt(47));
            }
        }
        for (int seed = 0; seed < 300 && check.wrong() < 10; seed++) {
            begin(seed, "voyage " + seed + " ");
            voyages();
        }
        for (int seed = 0; seed < 40000 && check.wrong() < 10; seed++) {
            begin(seed, "text " + seed + " ");
            tell(text());
            fault(0);
            fault(1);
        }
        check.finish("TwiceToldTest");
    }

    private static void begin(int seed, String name) {
        random = new Random(seed);
        told = new TabooIsles();
        plain = new Plain();
        run = name;
    }

    /** Three legs, where a good voyage is found early and a better one late, or PARTS are small. */
    private static void voyages() {
        tell(random.nextBoolean() ? "0,2,5;ab1,bc2,ac4" : "1,0,61,3;ab1,bc1,cd1,ad3,bd2");
        due("text isles", plain.text(0), told.text(0));
        int hand = random.nextBoolean() ? 9 : 1 + random.nextInt(3);
        due("hand", plain.hand(hand) ? 1 : 0, told.hand(hand) ? 1 : 0);
        int goods = 1 + random.nextInt(3);
        for (int good = 0; good < goods; good++) {
            due("good", plain.good(), told.good());
        }
        int most = random.nextBoolean() ? 99 : 12;
        for (int good = 0; good < plain.prices.size(); good++) {
            for (int isle = 0; isle < plain.isles; isle++) {
                int v = 1 + random.nextInt(most);
                due("price", plain.price(good, isle, v) ? 1 : 0, told.price(good, isle, v) ? 1 : 0);
                int q = 1 + random.nextInt(6);
                due("deal", plain.deal(good, isle, q, 0), told.deal(good, isle, q, 0));
            }
        }
        int money = random.nextInt(200);
        int hold = 1 + random.nextInt(2);
        for (int isle = 0; isle < plain.isles; isle++) {
            int step = random.nextInt(9);
            String of = "gain " + isle + " " + money + " " + hold + " ";
            due(of, plain.gain(isle, money, hold, 3, -1), told.gain(isle, money, hold, 3, -1));
            due(of + step, plain.gain(isle, money, hold, 3, step), told.gain(isle, money, hold, 3, step));
        }
    }

    private static int some(int least, int most) {
        int chance = random.nextInt(40);
        if (chance == 0) {
            int[] edges = {least - 1, most + 1, Integer.MIN_VALUE, Integer.MAX_VALUE, -2, least, most};
            return edges[random.nextInt(edges.length)];
        }
        return least + random.nextInt(most - least + 1);
    }

    private static int isle() {
        return some(0, Math.max(0, plain.isles - 1));
    }

    private static void due(String call, long want, long got) {
        check.due(run + call, want, got);
    }

    private static void tell(String text) {
        due("end", plain.end(0) ? 1 : 0, told.end(0) ? 1 : 0);
        for (int from = 0; from < text.length(); from += 20) {
            int[] w = Check.words(text, from);
            due("feed of " + text, plain.feed(w), told.feed(w[0], w[1], w[2], w[3], w[4]));
        }
    }

    private static void fault(int sort) {
        due("fault " + sort + " of " + plain.tape, plain.fault(sort), told.fault(sort));
    }

    private static String text() {
        String[] from = random.nextBoolean() ? ISLES : CUSTOMS;
        StringBuilder text = new StringBuilder(from[random.nextInt(from.length)]);
        if (from == CUSTOMS && random.nextInt(3) == 0) {
            text.append(";").append(CUSTOMS[random.nextInt(CUSTOMS.length)]);
        }
        for (int k = random.nextInt(4); k > 0; k--) {
            int at = random.nextInt(text.length() + 1);
            char sign = SIGNS.charAt(random.nextInt(SIGNS.length()));
            if (random.nextInt(3) == 0 && at < text.length()) {
                text.deleteCharAt(at);
            } else if (random.nextInt(2) == 0 && at < text.length()) {
                text.setCharAt(at, sign);
            } else {
                text.insert(at, sign);
            }
            if (random.nextInt(20) == 0) {
                text.insert(0, (char) (1 + random.nextInt(255)));
            }
        }
        return text.toString();
    }

    private static void call(int which) {
        if (plain.isles == 0 && random.nextInt(4) == 0) {
            which = 0;
        }
        if (which < 5) {
            tellSome(which);
        } else if (which < 15) {
            ask(which);
        } else if (which < 25) {
            askSums(which);
        } else if (which < 34) {
            goOn(which);
        } else {
            askDays(which);
        }
    }

    private static void tellSome(int which) {
        if (which == 0 && random.nextInt(plain.isles == 0 ? 1 : 12) == 0) {
            tell(ISLES[random.nextInt(ISLES.length)]);
            due("text isles", plain.text(0), told.text(0));
        } else if (which == 1 && random.nextInt(3) == 0) {
            tell(CUSTOMS[random.nextInt(CUSTOMS.length)]);
            due("text custom", plain.text(1), told.text(1));
        } else if (which == 2) {
            tell(text());
            int sort = some(0, 1);
            fault(sort);
            if (random.nextInt(10) == 0) {
                due("text", plain.text(sort), told.text(sort));
            }
        } else if (which == 3) {
            int n = some(0, plain.tape.length());
            due("end " + n, plain.end(n) ? 1 : 0, told.end(n) ? 1 : 0);
            int[] w = {random.nextInt(), random.nextInt(), 0, random.nextInt(256), random.nextInt()};
            due("feed", plain.feed(w), told.feed(w[0], w[1], w[2], w[3], w[4]));
        } else {
            int isle = isle();
            int custom = some(-1, Math.max(0, plain.customs.size() - 1));
            due("custom", plain.custom(isle, custom) ? 1 : 0, told.custom(isle, custom) ? 1 : 0);
        }
    }

    private static void ask(int which) {
        int isle = isle();
        int other = isle();
        int day = some(0, 99);
        int number = random.nextBoolean() ? some(0, 999) : some(0, 35);
        switch (which) {
            case 5:
                taboo(isle, day);
                break;
            case 6:
                due("way", plain.way(isle, other), told.way(isle, other));
                break;
            case 7:
                due("forbidden " + isle + " " + number + " " + day, plain.forbidden(isle, number, day),
                        told.forbidden(isle, number, day));
                break;
            case 8:
                int hand = some(1, 20);
                due("hand", plain.hand(hand) ? 1 : 0, told.hand(hand) ? 1 : 0);
                break;
            case 9:
                int k = some(-1, 30);
                due("date", plain.date(isle, k), told.date(isle, k));
                break;
            case 10:
                int date = some(1, 30);
                int what = some(0, 1);
                due("debt", plain.debt(isle, date, what), told.debt(isle, date, what));
                break;
            case 11:
                int m = random.nextInt(3) > 0 ? some(0, 40) : some(0, 200);
                m = random.nextBoolean() && plain.isIsle(isle) ? plain.tabooOn(isle, plain.today) - 1 : m;
                int i = some(-1, 2);
                due("bit", plain.bit(isle, m, i), told.bit(isle, m, i));
                due("likely", plain.likely(isle, m, i), told.likely(isle, m, i));
                break;
            case 12:
                int v = random.nextInt(3) == 0 ? 0 : some(0, 99);
                int of = some(1, 99);
                due("weight", plain.weight(of, v) ? 1 : 0, told.weight(of, v) ? 1 : 0);
                break;
            case 13:
                due("spoken", plain.spoken(isle, number), told.spoken(isle, number));
                break;
            default:
                int many = some(1, 8);
                int row = random.nextInt(10) == 0 ? random.nextInt() : isle + 10 * isle() + 100 * isle();
                due("carried", plain.carried(number, row, many), told.carried(number, row, many));
                break;
        }
    }

    private static void taboo(int isle, int day) {
        boolean there = plain.isIsle(isle) && Plain.in(day, 0, 99);
        try {
            due("taboo", there ? plain.tabooOn(isle, day) : -99, told.taboo(isle, day));
        } catch (NoSuchElementException e) {
            due("taboo throws", there ? 0 : 1, 1);
        }
    }

    private static void askSums(int which) {
        int isle = isle();
        int other = isle();
        int sum = random.nextBoolean() ? some(1, 200) : some(1, 40);
        int rules = some(0, 7);
        int i = some(-1, 6);
        int many = some(1, 30);
        String of = isle + " " + sum + " " + rules + " " + i;
        switch (which) {
            case 15:
            case 16:
                due("pay " + of, plain.pay(isle, sum, rules, i), told.pay(isle, sum, rules, i));
                break;
            case 17:
                int parts = some(1, 8);
                due("ways " + of + " " + parts, plain.ways(isle, sum, rules, parts),
                        told.ways(isle, sum, rules, parts));
                break;
            case 18:
                due("cant " + of, plain.cant(isle, rules, i), told.cant(isle, rules, i));
                break;
            case 19:
                due("family " + isle + " " + many, plain.family(isle, many, i), told.family(isle, many, i));
                break;
            case 20:
                due("splits " + isle + " " + many, plain.splits(isle, many), told.splits(isle, many));
                break;
            case 21:
                due("near " + of, plain.near(isle, sum, rules), told.near(isle, sum, rules));
                break;
            case 22:
                due("joint " + of, plain.joint(isle, other, sum, rules), told.joint(isle, other, sum, rules));
                break;
            case 23:
                int what = some(0, 1);
                if (random.nextInt(4) == 0) {
                    due("worst " + of, plain.worst(isle, rules, what), told.worst(isle, rules, what));
                }
                break;
            default:
                int reach = some(1, 9);
                int from = some(0, sum > 0 && sum < 300 ? sum : 1);
                int ask = some(0, 1);
                due("game", plain.game(isle, reach, sum, from, ask), told.game(isle, reach, sum, from, ask));
                break;
        }
    }

    private static void goOn(int which) {
        int isle = isle();
        int day = some(0, 99);
        int number = random.nextBoolean() ? some(0, 999) : some(0, 35);
        switch (which) {
            case 25:
                due("good", plain.good(), told.good());
                break;
            case 26:
                int good = some(0, Math.max(0, plain.prices.size() - 1));
                int v = random.nextBoolean() ? some(1, 99) : some(1, 20);
                due("price", plain.price(good, isle, v) ? 1 : 0, told.price(good, isle, v) ? 1 : 0);
                break;
            case 27:
                int of = some(0, Math.max(0, plain.prices.size() - 1));
                int q = some(1, 6);
                due("deal", plain.deal(of, isle, q, day), told.deal(of, isle, q, day));
                break;
            case 28:
                due("today", plain.today(day) ? 1 : 0, told.today(day) ? 1 : 0);
                break;
            case 29:
                int taboo = random.nextInt(8) == 0 ? some(0, 99) : some(0, 13);
                due("change", plain.change(isle, day, taboo), told.change(isle, day, taboo));
                break;
            case 30:
                int days = random.nextBoolean() ? some(1, 99) : 1;
                int risk = random.nextBoolean() ? some(0, 100) : 3;
                long seed = random.nextLong();
                due("drown", plain.drown(days, risk, seed), told.drown(days, risk, seed));
                break;
            default:
                due("say", plain.say(isle, number), told.say(isle, number));
                break;
        }
    }

    private static void askDays(int which) {
        int isle = isle();
        int other = isle();
        int k = some(0, 60);
        switch (which) {
            case 34:
            case 35:
                int i = some(-1, 3);
                due("breach", plain.breach(i), told.breach(i));
                break;
            case 36:
                due("fines", plain.fines(isle), told.fines(isle));
                break;
            case 37:
                int n = some(0, 99);
                due("safe", plain.safe(isle, n), told.safe(isle, n));
                break;
            case 38:
                due("owes", plain.owes(), told.owes());
                break;
            case 39:
                due("calendar", plain.calendar(isle, k), told.calendar(isle, k));
                break;
            case 40:
                due("twins", plain.twins(isle, other, k), told.twins(isle, other, k));
                break;
            case 41:
                due("image", plain.image(), told.image());
                break;
            case 42:
                due("back", plain.back(), told.back());
                break;
            case 43:
            case 44:
                gain(isle);
                break;
            default:
                int what = some(0, 7);
                due("count " + what, plain.count(what), told.count(what));
                break;
        }
    }

    // the plain telling makes a list of all voyages, so long ones are asked where few are possible
    private static void gain(int isle) {
        boolean few = plain.isles <= 3;
        int hold = few ? some(1, 6) : some(1, 2);
        int money = random.nextBoolean() ? some(0, 60) : few ? some(0, 999) : 20;
        int legs = few && hold < 3 ? some(0, 3) : some(0, 2);
        int step = some(-1, Plain.in(legs, 1, 3) ? 3 * legs - 1 : 0);
        due("gain " + isle + " " + money + " " + hold + " " + legs + " " + step,
                plain.gain(isle, money, hold, legs, step), told.gain(isle, money, hold, legs, step));
    }
}

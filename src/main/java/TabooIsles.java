import java.util.Arrays;
import java.util.NoSuchElementException;

public final class TabooIsles {
    public static final int NONE = -1;
    public static final int HIDDEN = -1000000;

    private static final int NO_SORT = -2;
    private static final int SORT_ISLES = 0;
    private static final int SORT_CUSTOM = 1;

    private static final int TAPE_MOST = 160;
    private static final int ISLES_MOST = 6;
    private static final int WAYS_MOST = 15;
    private static final int CUSTOMS_MOST = 4;
    private static final int NESTED_MOST = 6;
    private static final int WORTH_MOST = 1000000;

    private static final int LAST_DAY = 99;
    private static final int LAST_DATE = 30;
    private static final int NUMBER_MOST = 999;
    private static final int TABOO_MOST = 99;
    private static final int WORST_TABOOS = 30;
    private static final int CALENDAR_DAYS = 60;

    private static final int SUM_MOST = 200;
    private static final int HAND_MOST = 20;
    private static final int HAND_AT_FIRST = 9;
    private static final int PARTS_MOST = 60;
    private static final int WAYS_PARTS_MOST = 8;
    private static final int FAMILY_MOST = 30;
    private static final int RULE_PARTS = 1;
    private static final int RULE_TOTALS = 2;
    private static final int RULE_COUNT = 4;
    private static final int RULES_MOST = 7;

    private static final int WEIGHTS_MOST = 99;
    private static final int WHOLE = 1000000;

    private static final int GOODS_MOST = 3;
    private static final int PRICE_MOST = 99;
    private static final int PRICE_AT_FIRST = 10;
    private static final int HOLD_MOST = 6;
    private static final int MONEY_MOST = 999;
    private static final int LEGS_MOST = 3;
    private static final int VOYAGE_DAYS = 28;

    private static final int CHANGES_MOST = 20;
    private static final int SAID_MOST = 40;
    private static final int DROWN_DAYS_MOST = 99;
    private static final int RISK_MOST = 100;
    private static final int REACH_MOST = 9;
    private static final int ROW_MOST = 8;

    private final Tape tape;
    private final Chart draft;
    private final CustomReader reader;
    private final World world;
    private final Log kept;
    private final Purse purse;
    private final Trader trader;
    private final int[] weights;
    private final boolean[] wins;
    private final int[] rowDigits;
    private boolean hasImage;
    private int handMost;

    public TabooIsles() {
        tape = new Tape();
        draft = new Chart();
        reader = new CustomReader(tape);
        world = new World();
        kept = new Log();
        purse = new Purse();
        trader = new Trader(world, purse);
        weights = new int[WEIGHTS_MOST + 1];
        Arrays.fill(weights, 1);
        wins = new boolean[SUM_MOST + 1];
        rowDigits = new int[ROW_MOST];
        handMost = HAND_AT_FIRST;
    }

    public int feed(int a, int b, int c, int d, int e) {
        int more = bytesIn(a) + bytesIn(b) + bytesIn(c) + bytesIn(d) + bytesIn(e);
        if (tape.length + more > TAPE_MOST) {
            return NONE;
        }
        tape.add(a);
        tape.add(b);
        tape.add(c);
        tape.add(d);
        tape.add(e);
        return tape.length;
    }

    public boolean end(int n) {
        if (n < 0 || n > tape.length) {
            return false;
        }
        tape.length = n;
        return true;
    }

    public int fault(int sort) {
        if (sort == SORT_ISLES) {
            return draft.read(tape) ? NONE : tape.at;
        }
        if (sort == SORT_CUSTOM) {
            return reader.read() ? NONE : tape.at;
        }
        return NO_SORT;
    }

    public int text(int sort) {
        if (sort == SORT_ISLES && draft.read(tape)) {
            return takeIsles();
        }
        if (sort == SORT_CUSTOM && world.customs < CUSTOMS_MOST && reader.read()) {
            return takeCustom();
        }
        return NONE;
    }

    public int taboo(int isle, int day) throws NoSuchElementException {
        if (!world.isIsle(isle) || !isDay(day)) {
            throw new NoSuchElementException("no such isle or day");
        }
        return world.tabooOn(isle, day);
    }

    public int way(int one, int other) {
        if (!world.isIsle(one) || !world.isIsle(other)) {
            return NONE;
        }
        int days = world.chart.days[one][other];
        return days > 0 ? days : NONE;
    }

    public boolean custom(int isle, int custom) {
        if (!world.isIsle(isle) || custom < NONE || custom >= world.customs) {
            return false;
        }
        world.customOf[isle] = custom;
        return true;
    }

    public int forbidden(int isle, int number, int day) {
        if (!world.isIsle(isle) || !isNumber(number) || !isDay(day)) {
            return NONE;
        }
        return world.forbids(isle, number, day) ? 1 : 0;
    }

    public boolean hand(int v) {
        if (v < 1 || v > HAND_MOST) {
            return false;
        }
        handMost = v;
        return true;
    }

    public int pay(int isle, int sum, int rules, int i) {
        if (!isPayment(isle, sum, rules)) {
            return NONE;
        }
        openPurse(isle, handMost, rules);
        return purse.rowPart(sum, i);
    }

    public long ways(int isle, int sum, int rules, int parts) {
        if (!isPayment(isle, sum, rules) || parts < 1 || parts > WAYS_PARTS_MOST) {
            return NONE;
        }
        openPurse(isle, handMost, rules);
        return purse.rows(sum, parts);
    }

    public int cant(int isle, int rules, int i) {
        if (!world.isIsle(isle) || !isRules(rules) || i < NONE) {
            return NONE;
        }
        openPurse(isle, handMost, rules);
        purse.countForward();
        return i == NONE ? purse.unpaid() : purse.unpaidAt(i);
    }

    public int family(int isle, int many, int i) {
        if (!isFamily(isle, many)) {
            return NONE;
        }
        openFamily(isle);
        return purse.rowPart(many, i);
    }

    public int splits(int isle, int many) {
        if (!isFamily(isle, many)) {
            return NONE;
        }
        openFamily(isle);
        return purse.partitions(many);
    }

    public int date(int isle, int k) {
        if (!world.isIsle(isle) || k < NONE || k == 0) {
            return NONE;
        }
        int there = 0;
        for (int date = 1; date <= LAST_DATE; date++) {
            if (!world.forbidsNow(isle, date)) {
                there++;
                if (there == k) {
                    return date;
                }
            }
        }
        return k == NONE ? there : NONE;
    }

    public int debt(int isle, int date, int what) {
        if (!world.isIsle(isle) || date < 1 || date > LAST_DATE || what < 0 || what > 1) {
            return NONE;
        }
        int paid = world.dateFrom(isle, world.log.now, date);
        if (paid == NONE || what == 0) {
            return paid;
        }
        return paid < date ? 1 : 0;
    }

    public int bit(int isle, int m, int i) {
        if (!isBitBase(isle, m) || i < NONE) {
            return NONE;
        }
        int many = forbiddenBehind(isle, m);
        if (i == NONE) {
            return many;
        }
        return i < many ? m + 1 + i : NONE;
    }

    public boolean weight(int number, int v) {
        if (number < 1 || number > WEIGHTS_MOST || v < 0 || v > WEIGHTS_MOST) {
            return false;
        }
        weights[number] = v;
        return true;
    }

    public int likely(int isle, int m, int i) {
        if (!isBitBase(isle, m) || i < 0) {
            return NONE;
        }
        int many = forbiddenBehind(isle, m);
        int whole = 0;
        for (int k = 1; k <= many; k++) {
            whole += weightOf(m + k);
        }
        if (i >= many || whole == 0) {
            return NONE;
        }
        return weightOf(m + 1 + i) * WHOLE / whole;
    }

    public int good() {
        if (world.chart.isles == 0) {
            return NONE;
        }
        return trader.addGood();
    }

    public boolean price(int good, int isle, int v) {
        if (!trader.isGood(good) || !world.isIsle(isle) || v < 1 || v > PRICE_MOST) {
            return false;
        }
        trader.prices[good][isle] = v;
        return true;
    }

    public int deal(int good, int isle, int q, int day) {
        if (!trader.isGood(good) || !world.isIsle(isle) || q < 1 || q > HOLD_MOST || !isDay(day)) {
            return NONE;
        }
        int lawful = trader.lawfulDeals(isle, day, handMost);
        return Trader.allows(lawful, good, q) ? 1 : 0;
    }

    public int gain(int isle, int money, int hold, int legs, int step) {
        if (!world.isIsle(isle) || money < 0 || money > MONEY_MOST || hold < 1 || hold > HOLD_MOST) {
            return HIDDEN;
        }
        if (legs < 0 || legs > LEGS_MOST || step < NONE || step >= 3 * legs) {
            return HIDDEN;
        }
        trader.learnDeals(isle, legs, handMost);
        int most = trader.mostMoney(isle, money, hold, legs);
        if (most == NONE) {
            return HIDDEN;
        }
        return step == NONE ? most - money : trader.bestRoute[step];
    }

    public boolean today(int day) {
        if (!isDay(day)) {
            return false;
        }
        world.log.now = day;
        return true;
    }

    public int change(int isle, int day, int taboo) {
        if (!world.isIsle(isle) || !isDay(day) || taboo < 0 || taboo > TABOO_MOST) {
            return NONE;
        }
        return world.log.addChange(isle, day, taboo) ? world.log.changes : NONE;
    }

    public int drown(int days, int risk, long seed) {
        if (world.chart.isles == 0 || days < 1 || days > DROWN_DAYS_MOST || risk < 0 || risk > RISK_MOST) {
            return NONE;
        }
        int before = world.log.changes;
        world.log.drownings(world.chart.isles, days, risk, seed);
        return world.log.changes - before;
    }

    public int say(int isle, int number) {
        if (!world.isIsle(isle) || !isNumber(number)) {
            return NONE;
        }
        return world.log.addSaid(isle, number) ? world.log.said : NONE;
    }

    public int breach(int i) {
        if (world.chart.isles == 0 || i < NONE) {
            return NONE;
        }
        int found = 0;
        for (int place = 0; place < world.log.said; place++) {
            if (world.isBreach(place)) {
                if (found == i) {
                    return place;
                }
                found++;
            }
        }
        return i == NONE ? found : NONE;
    }

    public int fines(int isle) {
        if (!world.isIsle(isle)) {
            return NONE;
        }
        return world.finesOf(isle);
    }

    public int safe(int isle, int n) {
        if (!world.isIsle(isle) || n < 0 || n > LAST_DAY) {
            return NONE;
        }
        int last = Math.min(LAST_DAY, world.log.now + n);
        for (int number = 1; number <= NUMBER_MOST; number++) {
            if (world.neverForbids(isle, number, last)) {
                return number;
            }
        }
        return NONE;
    }

    public int game(int isle, int reach, int goal, int from, int what) {
        if (!world.isIsle(isle) || reach < 1 || reach > REACH_MOST || goal < 1 || goal > SUM_MOST) {
            return HIDDEN;
        }
        if (from < 0 || from >= goal || what < 0 || what > 1) {
            return HIDDEN;
        }
        // "who can say nothing has lost": behind GOAL nothing can be said, so a win is a move to a lost number
        wins[goal] = false;
        int move = NONE;
        for (int last = goal - 1; last >= from; last--) {
            move = winningMove(isle, reach, goal, last);
            wins[last] = move != NONE;
        }
        if (what == 1) {
            return move;
        }
        return move != NONE ? 1 : 0;
    }

    public int spoken(int isle, int number) {
        if (!world.isIsle(isle) || !isNumber(number)) {
            return NONE;
        }
        return world.spokenAs(isle, number);
    }

    public int carried(int number, int row, int many) {
        if (!isNumber(number) || row < 0 || many < 1 || many > ROW_MOST || !splitRow(row, many)) {
            return NONE;
        }
        int now = number;
        for (int k = many - 1; k >= 0; k--) {
            now = world.spokenAs(rowDigits[k], now);
        }
        return now;
    }

    public int near(int isle, int sum, int rules) {
        if (!isPayment(isle, sum, rules)) {
            return NONE;
        }
        openPurse(isle, handMost, rules);
        purse.countForward();
        for (int off = 0; off < SUM_MOST; off++) {
            if (purse.isPaid(sum - off)) {
                return sum - off;
            }
            if (purse.isPaid(sum + off)) {
                return sum + off;
            }
        }
        return NONE;
    }

    public int joint(int one, int other, int sum, int rules) {
        if (!isPayment(one, sum, rules) || !world.isIsle(other) || one == other) {
            return NONE;
        }
        openPurse(one, handMost, rules);
        world.barAlso(purse.barred, other);
        return purse.rowPart(sum, NONE);
    }

    public int worst(int isle, int rules, int what) {
        if (!world.isIsle(isle) || !isRules(rules) || what < 0 || what > 1) {
            return NONE;
        }
        purse.open(handMost, rules);
        int worstTaboo = NONE;
        int most = NONE;
        for (int taboo = 1; taboo <= WORST_TABOOS; taboo++) {
            world.bar(purse.barred, isle, world.log.now, taboo);
            purse.countForward();
            int unpaid = purse.unpaid();
            if (unpaid > most) {
                most = unpaid;
                worstTaboo = taboo;
            }
        }
        return what == 0 ? worstTaboo : most;
    }

    public int owes() {
        int most = 0;
        int debtor = NONE;
        for (int isle = 0; isle < world.chart.isles; isle++) {
            int owed = world.finesOf(isle);
            if (owed > most) {
                most = owed;
                debtor = isle;
            }
        }
        return debtor;
    }

    public int calendar(int isle, int k) {
        if (!world.isIsle(isle) || k < 0 || k > CALENDAR_DAYS) {
            return NONE;
        }
        int date = 0;
        for (int on = 0; on <= k; on++) {
            date = world.dateBehind(isle, on, date);
            if (date == NONE) {
                return NONE;
            }
        }
        return date;
    }

    public int twins(int one, int other, int k) {
        if (!world.isIsle(one) || !world.isIsle(other) || one == other || k < 0 || k > CALENDAR_DAYS) {
            return NONE;
        }
        int same = 0;
        int dateOfOne = 0;
        int dateOfOther = 0;
        for (int on = 0; on <= k; on++) {
            dateOfOne = world.dateBehind(one, on, dateOfOne);
            dateOfOther = world.dateBehind(other, on, dateOfOther);
            if (dateOfOne == NONE || dateOfOther == NONE) {
                return NONE;
            }
            if (dateOfOne == dateOfOther) {
                same++;
            }
        }
        return same;
    }

    public int image() {
        if (world.chart.isles == 0) {
            return NONE;
        }
        kept.copy(world.log);
        hasImage = true;
        return kept.now;
    }

    public int back() {
        if (!hasImage) {
            return NONE;
        }
        world.log.copy(kept);
        return kept.now;
    }

    public int count(int what) {
        switch (what) {
            case 0:
                return world.chart.isles;
            case 1:
                return world.customs;
            case 2:
                return tape.length;
            case 3:
                return world.log.now;
            case 4:
                return world.log.changes;
            case 5:
                return world.log.said;
            case 6:
                return trader.goods;
            case 7:
                return handMost;
            default:
                return HIDDEN;
        }
    }

    private static int bytesIn(int word) {
        int many = 0;
        for (int shift = 24; shift >= 0; shift -= 8) {
            if ((word >>> shift & 255) != 0) {
                many++;
            }
        }
        return many;
    }

    private int takeIsles() {
        tape.length = 0;
        world.settle(draft);
        trader.goods = 0;
        hasImage = false;
        return world.chart.isles;
    }

    private int takeCustom() {
        tape.length = 0;
        return world.addCustom(reader.compiled());
    }

    private static boolean isDay(int day) {
        return day >= 0 && day <= LAST_DAY;
    }

    private static boolean isNumber(int number) {
        return number >= 0 && number <= NUMBER_MOST;
    }

    private static boolean isRules(int rules) {
        return rules >= 0 && rules <= RULES_MOST;
    }

    private boolean isPayment(int isle, int sum, int rules) {
        return world.isIsle(isle) && sum >= 1 && sum <= SUM_MOST && isRules(rules);
    }

    private boolean isFamily(int isle, int many) {
        return world.isIsle(isle) && many >= 1 && many <= FAMILY_MOST;
    }

    private boolean isBitBase(int isle, int m) {
        return world.isIsle(isle) && m >= 0 && m <= SUM_MOST && !world.forbidsNow(isle, m);
    }

    private void openPurse(int isle, int handNow, int rules) {
        purse.open(handNow, rules);
        world.bar(purse.barred, isle, world.log.now, world.tabooOn(isle, world.log.now));
    }

    // GROUPS are PARTS of any size; the greatest row of them is the one with the greater ones first
    private void openFamily(int isle) {
        openPurse(isle, FAMILY_MOST, RULE_PARTS | RULE_COUNT);
    }

    private int forbiddenBehind(int isle, int m) {
        int many = 0;
        for (int number = m + 1; number <= NUMBER_MOST; number++) {
            if (!world.forbidsNow(isle, number)) {
                return many;
            }
            many++;
        }
        return many;
    }

    private int weightOf(int number) {
        return number >= 1 && number <= WEIGHTS_MOST ? weights[number] : 1;
    }

    private int winningMove(int isle, int reach, int goal, int last) {
        for (int next = last + 1; next <= last + reach && next <= goal; next++) {
            if (!wins[next] && !world.forbidsNow(isle, next)) {
                return next;
            }
        }
        return NONE;
    }

    private boolean splitRow(int row, int many) {
        int rest = row;
        for (int k = 0; k < many && k < ROW_MOST; k++) {
            rowDigits[k] = rest % 10;
            rest /= 10;
            if (!world.isIsle(rowDigits[k])) {
                return false;
            }
        }
        return rest == 0;
    }

    /** The bytes told so far, and where reading them stands. */
    private static final class Tape {
        private static final int BLANK = 32;
        private static final int END = -1;

        final int[] signs;
        int length;
        int at;

        Tape() {
            signs = new int[TAPE_MOST];
        }

        void add(int word) {
            for (int shift = 24; shift >= 0; shift -= 8) {
                int sign = word >>> shift & 255;
                if (sign != 0 && length >= 0 && length < signs.length) {
                    signs[length] = sign;
                    length++;
                }
            }
        }

        void begin() {
            at = 0;
            skipBlanks();
        }

        int sign() {
            return at >= 0 && at < length && at < signs.length ? signs[at] : END;
        }

        boolean isSpent() {
            return at >= length;
        }

        boolean accept(int sign) {
            if (sign() != sign) {
                return false;
            }
            at++;
            skipBlanks();
            return true;
        }

        // a digit beyond the last one allowed is left: nothing goes on with it, so it is the FAULT
        int number(int digits) {
            int value = NONE;
            for (int k = 0; k < digits && isDigit(sign()); k++) {
                value = (k == 0 ? 0 : value * 10) + sign() - '0';
                at++;
            }
            skipBlanks();
            return value;
        }

        static boolean isDigit(int sign) {
            return sign >= '0' && sign <= '9';
        }

        private void skipBlanks() {
            for (int k = at; k >= 0 && k < length && k < signs.length && signs[k] == BLANK; k++) {
                at = k + 1;
            }
        }
    }

    /** ISLES as their TEXT tells them. */
    private static final class Chart {
        int isles;
        final int[] taboos;
        final int[][] days;

        Chart() {
            taboos = new int[ISLES_MOST];
            days = new int[ISLES_MOST][ISLES_MOST];
        }

        /** False: the tape stands at the FAULT. */
        boolean read(Tape tape) {
            clear();
            tape.begin();
            return readTaboos(tape) && readWays(tape);
        }

        void copy(Chart other) {
            isles = other.isles;
            for (int one = 0; one < ISLES_MOST; one++) {
                taboos[one] = other.taboos[one];
                System.arraycopy(other.days[one], 0, days[one], 0, ISLES_MOST);
            }
        }

        private void clear() {
            isles = 0;
            for (int one = 0; one < ISLES_MOST; one++) {
                taboos[one] = 0;
                Arrays.fill(days[one], 0);
            }
        }

        private boolean readTaboos(Tape tape) {
            for (int isle = 0; isle < ISLES_MOST; isle++) {
                int taboo = tape.number(2);
                if (taboo == NONE) {
                    return false;
                }
                taboos[isle] = taboo;
                isles = isle + 1;
                if (isles >= 2 && tape.accept(';')) {
                    return true;
                }
                if (isles == ISLES_MOST || !tape.accept(',')) {
                    return false;
                }
            }
            return false;
        }

        private boolean readWays(Tape tape) {
            // one turn more than there are pairs: the pair of that turn was there
            for (int k = 0; k <= WAYS_MOST; k++) {
                if (!readWay(tape)) {
                    return false;
                }
                if (tape.isSpent()) {
                    return true;
                }
                if (!tape.accept(',')) {
                    return false;
                }
            }
            return false;
        }

        private boolean readWay(Tape tape) {
            int one = tape.sign() - 'a';
            if (one < 0 || one >= isles || !tape.accept('a' + one)) {
                return false;
            }
            int other = tape.sign() - 'a';
            if (other < 0 || other >= isles || other == one || days[one][other] > 0) {
                return false;
            }
            if (!tape.accept('a' + other)) {
                return false;
            }
            if (tape.sign() == '0') {
                return false;
            }
            int many = tape.number(1);
            if (many == NONE) {
                return false;
            }
            days[one][other] = many;
            days[other][one] = many;
            return true;
        }
    }

    /** A CUSTOM, its signs behind what they join: a number of its own, or a sign below 0. */
    private static final class Custom {
        private final int[] code;
        private final int[] stack;

        Custom(int[] signs, int size) {
            int length = size < 0 ? 0 : size > signs.length ? signs.length : size;
            code = Arrays.copyOf(signs, length);
            stack = new int[length + 1];
        }

        int worth(int number, int taboo, int isle, int day) {
            int top = 0;
            boolean passing = false;
            for (int at = 0; at < code.length; at++) {
                int sign = -code[at];
                if (passing) {
                    passing = sign != ';';
                } else if (sign == ';') {
                    return top > 0 ? stack[top - 1] : 0;
                } else if (sign == '?') {
                    passing = top > 0 && stack[top - 1] == 0;
                    top = 0;
                } else if (sign == '!') {
                    if (top > 0) {
                        stack[top - 1] = 1 - stack[top - 1];
                    }
                } else if (!joins(sign)) {
                    if (top < stack.length) {
                        stack[top] = sign <= 0 ? -sign : letter(sign, number, taboo, isle, day);
                        top++;
                    }
                } else if (top > 1) {
                    stack[top - 2] = bounded(joined(sign, stack[top - 2], stack[top - 1]));
                    top--;
                }
            }
            return 0;
        }

        private static boolean joins(int sign) {
            switch (sign) {
                case '+':
                case '-':
                case '*':
                case '/':
                case '=':
                case '<':
                case '>':
                case '&':
                case '|':
                    return true;
                default:
                    return false;
            }
        }

        private static int letter(int sign, int number, int taboo, int isle, int day) {
            switch (sign) {
                case 'n':
                    return number;
                case 't':
                    return taboo;
                case 's':
                    return number / 100 + number / 10 % 10 + number % 10;
                case 'l':
                    return number % 10;
                case 'i':
                    return isle;
                default:
                    return day;
            }
        }

        private static long joined(int sign, long one, long other) {
            switch (sign) {
                case '+':
                    return one + other;
                case '-':
                    return one - other;
                case '*':
                    return one * other;
                case '/':
                    return other == 0 ? 0 : one / other;
                case '=':
                    return one == other ? 1 : 0;
                case '<':
                    return one < other ? 1 : 0;
                case '>':
                    return one > other ? 1 : 0;
                case '&':
                    return one & other;
                default:
                    return one | other;
            }
        }

        private static int bounded(long value) {
            if (value > WORTH_MOST) {
                return WORTH_MOST;
            }
            return value < -WORTH_MOST ? -WORTH_MOST : (int) value;
        }
    }

    /** Reads a CUSTOM from the tape: false in any of its methods means that the tape stands at the FAULT. */
    private static final class CustomReader {
        private final Tape tape;
        private final int[] code;
        private int size;

        CustomReader(Tape from) {
            tape = from;
            // each entry stands for a sign of its own; the last CLAUSE's close for its y
            code = new int[TAPE_MOST + 1];
        }

        boolean read() {
            size = 0;
            tape.begin();
            for (int k = 0; k <= TAPE_MOST; k++) {
                if (!clause()) {
                    return false;
                }
                if (tape.isSpent()) {
                    return true;
                }
                if (!tape.accept(';')) {
                    return false;
                }
            }
            return false;
        }

        Custom compiled() {
            return new Custom(code, size);
        }

        private boolean clause() {
            if (!tape.accept('y') || !tape.accept(':')) {
                return false;
            }
            if (tape.sign() == '!' || tape.sign() == '(') {
                return condition(0) && answer();
            }
            if (!sum(0)) {
                return false;
            }
            // only behind its first SUM it shows whether a CLAUSE has a CONDITION
            int how = comparison();
            if (how == NONE) {
                emit(-';');
                return true;
            }
            if (!sum(0)) {
                return false;
            }
            emit(-how);
            return moreTruths(0) && answer();
        }

        private boolean answer() {
            if (!tape.accept('?')) {
                return false;
            }
            emit(-'?');
            if (!sum(0)) {
                return false;
            }
            emit(-';');
            return true;
        }

        private boolean condition(int depth) {
            return unit(depth) && moreTruths(depth);
        }

        private boolean moreTruths(int depth) {
            if (!moreUnits(depth)) {
                return false;
            }
            for (int k = 0; k < TAPE_MOST && tape.accept('|'); k++) {
                if (!unit(depth) || !moreUnits(depth)) {
                    return false;
                }
                emit(-'|');
            }
            return true;
        }

        private boolean moreUnits(int depth) {
            for (int k = 0; k < TAPE_MOST && tape.accept('&'); k++) {
                if (!unit(depth)) {
                    return false;
                }
                emit(-'&');
            }
            return true;
        }

        private boolean unit(int depth) {
            int sign = tape.sign();
            if (sign != '!' && sign != '(') {
                if (!sum(depth)) {
                    return false;
                }
                int how = comparison();
                if (how == NONE || !sum(depth)) {
                    return false;
                }
                emit(-how);
                return true;
            }
            if (depth >= NESTED_MOST || !tape.accept(sign)) {
                return false;
            }
            if (sign == '(') {
                return condition(depth + 1) && tape.accept(')');
            }
            if (!unit(depth + 1)) {
                return false;
            }
            emit(-'!');
            return true;
        }

        /** The sign of comparison passed, or NONE: none is here. */
        private int comparison() {
            int sign = tape.sign();
            boolean compares = sign == '=' || sign == '<' || sign == '>';
            return compares && tape.accept(sign) ? sign : NONE;
        }

        private boolean sum(int depth) {
            if (!term(depth)) {
                return false;
            }
            for (int k = 0; k < TAPE_MOST; k++) {
                int sign = tape.sign();
                if (sign != '+' && sign != '-') {
                    return true;
                }
                if (!tape.accept(sign) || !term(depth)) {
                    return false;
                }
                emit(-sign);
            }
            return true;
        }

        private boolean term(int depth) {
            if (!atom(depth)) {
                return false;
            }
            for (int k = 0; k < TAPE_MOST; k++) {
                int sign = tape.sign();
                if (sign != '*' && sign != '/') {
                    return true;
                }
                if (!tape.accept(sign) || !atom(depth)) {
                    return false;
                }
                emit(-sign);
            }
            return true;
        }

        private boolean atom(int depth) {
            int sign = tape.sign();
            if (sign == '[') {
                return depth < NESTED_MOST && tape.accept(sign) && sum(depth + 1) && tape.accept(']');
            }
            if (isLetter(sign)) {
                emit(-sign);
                return tape.accept(sign);
            }
            int value = tape.number(4);
            if (value == NONE) {
                return false;
            }
            emit(value);
            return true;
        }

        private static boolean isLetter(int sign) {
            return sign == 'n' || sign == 't' || sign == 's' || sign == 'l' || sign == 'i' || sign == 'd';
        }

        private void emit(int entry) {
            if (size >= 0 && size < code.length) {
                code[size] = entry;
                size++;
            }
        }
    }

    /** What goes by with the DAYS, and what an IMAGE keeps: TODAY, CHANGES, SAID. */
    private static final class Log {
        int now;
        int changes;
        int said;
        final int[] changeIsles;
        final int[] changeDays;
        final int[] changeTaboos;
        final int[] saidIsles;
        final int[] saidNumbers;
        final int[] saidDays;
        private long x;

        Log() {
            changeIsles = new int[CHANGES_MOST];
            changeDays = new int[CHANGES_MOST];
            changeTaboos = new int[CHANGES_MOST];
            saidIsles = new int[SAID_MOST];
            saidNumbers = new int[SAID_MOST];
            saidDays = new int[SAID_MOST];
        }

        void clear() {
            now = 0;
            changes = 0;
            said = 0;
        }

        void copy(Log other) {
            now = other.now;
            changes = other.changes;
            said = other.said;
            System.arraycopy(other.changeIsles, 0, changeIsles, 0, CHANGES_MOST);
            System.arraycopy(other.changeDays, 0, changeDays, 0, CHANGES_MOST);
            System.arraycopy(other.changeTaboos, 0, changeTaboos, 0, CHANGES_MOST);
            System.arraycopy(other.saidIsles, 0, saidIsles, 0, SAID_MOST);
            System.arraycopy(other.saidNumbers, 0, saidNumbers, 0, SAID_MOST);
            System.arraycopy(other.saidDays, 0, saidDays, 0, SAID_MOST);
        }

        boolean addChange(int isle, int day, int taboo) {
            if (changes < 0 || changes >= CHANGES_MOST) {
                return false;
            }
            changeIsles[changes] = isle;
            changeDays[changes] = day;
            changeTaboos[changes] = taboo;
            changes++;
            return true;
        }

        boolean addSaid(int isle, int number) {
            if (said < 0 || said >= SAID_MOST) {
                return false;
            }
            saidIsles[said] = isle;
            saidNumbers[said] = number;
            saidDays[said] = now;
            said++;
            return true;
        }

        int tabooOn(int isle, int day, int first) {
            int latest = NONE;
            int taboo = first;
            for (int k = 0; k < changes && k < CHANGES_MOST; k++) {
                // not below: of several of one DAY the one told last counts
                if (changeIsles[k] == isle && changeDays[k] <= day && changeDays[k] >= latest) {
                    latest = changeDays[k];
                    taboo = changeTaboos[k];
                }
            }
            return taboo;
        }

        void drownings(int isles, int days, int risk, long seed) {
            x = seed;
            for (int k = 0; k < days; k++) {
                now = Math.min(LAST_DAY, now + 1);
                for (int isle = 0; isle < isles; isle++) {
                    if (changes < CHANGES_MOST && draw(100) < risk) {
                        addChange(isle, now, 1 + draw(12));
                    }
                }
            }
        }

        private int draw(int of) {
            x = x * 6364136223846793005L + 1442695040888963407L;
            return of > 0 ? (int) ((x >>> 33) % of) : 0;
        }
    }

    /** ISLES with their CUSTOMS and what was told of them: who forbids what, and when. */
    private static final class World {
        final Chart chart;
        final Log log;
        final int[] customOf;
        int customs;
        private final Custom[] texts;

        World() {
            chart = new Chart();
            log = new Log();
            customOf = new int[ISLES_MOST];
            texts = new Custom[CUSTOMS_MOST];
        }

        void settle(Chart told) {
            chart.copy(told);
            log.clear();
            Arrays.fill(customOf, NONE);
        }

        int addCustom(Custom custom) {
            if (customs < 0 || customs >= CUSTOMS_MOST) {
                return NONE;
            }
            texts[customs] = custom;
            customs++;
            return customs - 1;
        }

        boolean isIsle(int isle) {
            return isle >= 0 && isle < chart.isles && isle < ISLES_MOST;
        }

        int tabooOn(int isle, int day) {
            return isIsle(isle) ? log.tabooOn(isle, day, chart.taboos[isle]) : 0;
        }

        boolean forbids(int isle, int number, int day) {
            return forbidsBy(isle, number, day, tabooOn(isle, day));
        }

        boolean forbidsNow(int isle, int number) {
            return forbids(isle, number, log.now);
        }

        boolean forbidsBy(int isle, int number, int day, int taboo) {
            if (number <= 0 || !isIsle(isle)) {
                return false;
            }
            if (number == taboo) {
                return true;
            }
            int of = customOf[isle];
            if (of < 0 || of >= CUSTOMS_MOST || texts[of] == null) {
                return false;
            }
            return texts[of].worth(number, taboo, isle, day) > 0;
        }

        void bar(boolean[] barred, int isle, int day, int taboo) {
            for (int number = 0; number < barred.length; number++) {
                barred[number] = forbidsBy(isle, number, day, taboo);
            }
        }

        void barAlso(boolean[] barred, int isle) {
            int taboo = tabooOn(isle, log.now);
            for (int number = 0; number < barred.length; number++) {
                barred[number] = barred[number] || forbidsBy(isle, number, log.now, taboo);
            }
        }

        boolean neverForbids(int isle, int number, int lastDay) {
            for (int day = log.now; day <= lastDay; day++) {
                if (forbids(isle, number, day)) {
                    return false;
                }
            }
            return true;
        }

        boolean isBreach(int place) {
            if (place < 0 || place >= log.said || place >= SAID_MOST) {
                return false;
            }
            return forbids(log.saidIsles[place], log.saidNumbers[place], log.saidDays[place]);
        }

        int finesOf(int isle) {
            int owed = 0;
            for (int place = 0; place < log.said && place < SAID_MOST; place++) {
                if (log.saidIsles[place] == isle && isBreach(place)) {
                    owed += log.saidNumbers[place];
                }
            }
            return owed;
        }

        int spokenAs(int isle, int number) {
            for (int said = number; said > 0; said--) {
                if (!forbidsNow(isle, said)) {
                    return said;
                }
            }
            return 0;
        }

        /** The first DATE that is there from one on, going round; one below it is of the MONTH behind. */
        int dateFrom(int isle, int day, int from) {
            int taboo = tabooOn(isle, day);
            int date = from;
            for (int k = 0; k < LAST_DATE; k++) {
                if (!forbidsBy(isle, date, day, taboo)) {
                    return date;
                }
                date = date % LAST_DATE + 1;
            }
            return NONE;
        }

        /** The DATE so many DAYS on, behind the one of the day ahead (0: none yet). */
        int dateBehind(int isle, int daysOn, int last) {
            int day = Math.min(LAST_DAY, log.now + daysOn);
            return dateFrom(isle, day, last % LAST_DATE + 1);
        }
    }

    /** SUMS paid in PARTS, by the numbers barred and the rules. */
    private static final class Purse {
        // bits 0 .. PARTS_MOST: a longer row is none
        private static final long COUNTS = (1L << (PARTS_MOST + 1)) - 1;

        final boolean[] barred;
        private final long[] counts;
        private final long[] ways;
        private final int[][] splits;
        private int hand;
        private int rules;

        Purse() {
            barred = new boolean[SUM_MOST + 1];
            counts = new long[SUM_MOST + 1];
            ways = new long[SUM_MOST + 1];
            splits = new int[FAMILY_MOST + 1][FAMILY_MOST + 1];
        }

        void open(int handMost, int byRules) {
            hand = handMost;
            rules = byRules;
        }

        /** Of each sum, as bits: by how many PARTS it is reached from 0. */
        void countForward() {
            counts[0] = 1;
            for (int total = 1; total <= SUM_MOST; total++) {
                long before = 0;
                for (int part = 1; part <= hand && part <= total; part++) {
                    if (isPart(part)) {
                        before |= counts[total - part];
                    }
                }
                counts[total] = isTotal(total) ? before << 1 & COUNTS : 0;
            }
        }

        int unpaid() {
            int many = 0;
            for (int sum = 1; sum <= SUM_MOST; sum++) {
                if (!isPaid(sum)) {
                    many++;
                }
            }
            return many;
        }

        int unpaidAt(int i) {
            int found = 0;
            for (int sum = 1; sum <= SUM_MOST; sum++) {
                if (!isPaid(sum)) {
                    if (found == i) {
                        return sum;
                    }
                    found++;
                }
            }
            return NONE;
        }

        boolean isPaid(int sum) {
            return sum >= 1 && sum <= SUM_MOST && fewest(counts[sum]) != NONE;
        }

        /** How many PARTS (i NONE) or the i-th of the row with the fewest and then the greatest ahead. */
        int rowPart(int sum, int i) {
            if (sum < 1 || sum > SUM_MOST) {
                return NONE;
            }
            countBack(sum);
            int parts = fewest(counts[0]);
            if (i == NONE) {
                return parts;
            }
            if (i < 0 || i >= parts) {
                return NONE;
            }
            int total = 0;
            int part = NONE;
            for (int k = 0; k <= i; k++) {
                part = greatestPart(total, sum, parts - k - 1);
                total += part;
            }
            return part;
        }

        long rows(int sum, int parts) {
            if (sum < 1 || sum > SUM_MOST || !isCount(parts)) {
                return 0;
            }
            Arrays.fill(ways, 0);
            ways[0] = 1;
            for (int k = 0; k < parts; k++) {
                // downward: what stands below is still that of one PART less
                for (int total = sum; total >= 0; total--) {
                    ways[total] = isTotal(total) ? waysBefore(total) : 0;
                }
            }
            return ways[sum];
        }

        int partitions(int many) {
            if (many < 1 || many > FAMILY_MOST) {
                return 0;
            }
            for (int parts = 0; parts <= many; parts++) {
                Arrays.fill(splits[parts], 0);
            }
            splits[0][0] = 1;
            for (int size = 1; size <= many; size++) {
                if (isPart(size)) {
                    addSize(size, many);
                }
            }
            int all = 0;
            for (int parts = 1; parts <= many; parts++) {
                if (isCount(parts)) {
                    all += splits[parts][many];
                }
            }
            return all;
        }

        boolean isBarred(int number) {
            return number >= 0 && number <= SUM_MOST && barred[number];
        }

        private boolean isPart(int part) {
            return (rules & RULE_PARTS) == 0 || !isBarred(part);
        }

        private boolean isTotal(int total) {
            return (rules & RULE_TOTALS) == 0 || !isBarred(total);
        }

        private boolean isCount(int parts) {
            return (rules & RULE_COUNT) == 0 || !isBarred(parts);
        }

        private int fewest(long bits) {
            for (int parts = 1; parts <= PARTS_MOST; parts++) {
                if ((bits >>> parts & 1) != 0 && isCount(parts)) {
                    return parts;
                }
            }
            return NONE;
        }

        // of each total, as bits: by how many PARTS more it comes to the sum
        private void countBack(int sum) {
            counts[sum] = isTotal(sum) ? 1 : 0;
            for (int total = sum - 1; total >= 0; total--) {
                long behind = 0;
                for (int part = 1; part <= hand && part <= sum - total; part++) {
                    if (isPart(part)) {
                        behind |= counts[total + part];
                    }
                }
                counts[total] = isTotal(total) ? behind << 1 & COUNTS : 0;
            }
        }

        private int greatestPart(int total, int sum, int partsBehind) {
            for (int part = Math.min(hand, sum - total); part > 0; part--) {
                if (isPart(part) && (counts[total + part] >>> partsBehind & 1) != 0) {
                    return part;
                }
            }
            return 0;
        }

        private long waysBefore(int total) {
            long before = 0;
            for (int part = 1; part <= hand && part <= total; part++) {
                if (isPart(part)) {
                    before += ways[total - part];
                }
            }
            return before;
        }

        private void addSize(int size, int many) {
            for (int sum = size; sum <= many; sum++) {
                for (int parts = 1; parts <= sum; parts++) {
                    splits[parts][sum] += splits[parts - 1][sum - size];
                }
            }
        }
    }

    /** GOODS and their PRICES, and the best voyage with them. */
    private static final class Trader {
        private static final int UNKNOWN = -1;

        final int[][] prices;
        final int[] bestRoute;
        int goods;
        private final World world;
        private final Purse purse;
        // by place: the DAYS gone by, times ISLES_MOST, and the ISLE
        private final int[] lawful;
        private final int[] legsTo;
        private final int[] route;
        private int hold;
        private int legs;
        private int legMost;
        private int bestMoney;

        Trader(World isles, Purse coins) {
            world = isles;
            purse = coins;
            prices = new int[GOODS_MOST][ISLES_MOST];
            bestRoute = new int[3 * LEGS_MOST];
            route = new int[3 * LEGS_MOST];
            lawful = new int[ISLES_MOST * VOYAGE_DAYS];
            legsTo = new int[ISLES_MOST * VOYAGE_DAYS];
        }

        int addGood() {
            if (goods < 0 || goods >= GOODS_MOST) {
                return NONE;
            }
            Arrays.fill(prices[goods], PRICE_AT_FIRST);
            goods++;
            return goods - 1;
        }

        boolean isGood(int good) {
            return good >= 0 && good < goods && good < GOODS_MOST;
        }

        /** A bit for each of the GOODS and each quantity that may be bought and sold there then. */
        int lawfulDeals(int isle, int day, int handMost) {
            // "in any number of PARTS": without RULE_COUNT; no row is longer than PARTS_MOST all the same
            purse.open(handMost, RULE_PARTS | RULE_TOTALS);
            world.bar(purse.barred, isle, day, world.tabooOn(isle, day));
            purse.countForward();
            int bits = 0;
            for (int good = 0; good < goods; good++) {
                for (int q = 1; q <= HOLD_MOST; q++) {
                    if (!purse.isBarred(q) && purse.isPaid(q * prices[good][isle])) {
                        bits |= dealBit(good, q);
                    }
                }
            }
            return bits;
        }

        static boolean allows(int bits, int good, int q) {
            return (bits & dealBit(good, q)) != 0;
        }

        /** Looks ahead: what is lawful at each quay, on each DAY, to which so many LEGS may lead. */
        void learnDeals(int isle, int legsMany, int handMost) {
            Arrays.fill(legsTo, UNKNOWN);
            legsTo[isle] = 0;
            // a WAY takes a DAY at least, so all that leads to a place stands ahead of it
            for (int place = 0; place < lawful.length; place++) {
                if (legsTo[place] != UNKNOWN) {
                    int day = Math.min(LAST_DAY, world.log.now + place / ISLES_MOST);
                    lawful[place] = goods > 0 ? lawfulDeals(place % ISLES_MOST, day, handMost) : 0;
                    if (legsTo[place] < legsMany) {
                        markNext(place);
                    }
                }
            }
        }

        /** NONE: it can't go so far; else bestRoute has the ROUTE. What is lawful is learned ahead. */
        int mostMoney(int isle, int money, int holdMost, int legsMany) {
            hold = holdMost;
            legs = legsMany;
            bestMoney = NONE;
            legMost = hold * widestSpread();
            land(0, isle, 0, money, NONE, 0);
            return bestMoney;
        }

        private static int dealBit(int good, int q) {
            return 1 << (good * HOLD_MOST + q - 1);
        }

        private void markNext(int place) {
            int[] days = world.chart.days[place % ISLES_MOST];
            for (int to = 0; to < world.chart.isles; to++) {
                int next = (place / ISLES_MOST + days[to]) * ISLES_MOST + to;
                if (days[to] > 0 && next < legsTo.length) {
                    int known = legsTo[next];
                    legsTo[next] = known == UNKNOWN ? legsTo[place] + 1 : Math.min(known, legsTo[place] + 1);
                }
            }
        }

        // what is tried first has the lower numbers, so only more MONEY replaces a ROUTE
        private void land(int leg, int isle, int daysOn, int money, int good, int q) {
            int may = lawfulAt(isle, daysOn);
            boolean sold = q > 0 && allows(may, good, q);
            int owned = sold ? money + q * prices[good][isle] : money;
            if (leg >= legs) {
                keep(owned);
            } else if (q > 0 && !sold) {
                buyNothing(leg);
                leave(leg, isle, daysOn, owned, good, q);
            } else {
                trade(leg, isle, daysOn, owned, may);
            }
        }

        private void trade(int leg, int isle, int daysOn, int money, int may) {
            // a sale takes a LEG at least: what can't bring more MONEY than the best needn't be tried
            if (money + (legs - leg) * legMost <= bestMoney) {
                return;
            }
            buyNothing(leg);
            leave(leg, isle, daysOn, money, NONE, 0);
            for (int good = 0; good < goods; good++) {
                for (int q = 1; q <= hold; q++) {
                    int cost = q * prices[good][isle];
                    if (cost <= money && allows(may, good, q)) {
                        route[3 * leg] = good;
                        route[3 * leg + 1] = q;
                        leave(leg, isle, daysOn, money - cost, good, q);
                    }
                }
            }
        }

        private void leave(int leg, int isle, int daysOn, int money, int good, int q) {
            for (int to = 0; to < world.chart.isles; to++) {
                int days = world.chart.days[isle][to];
                if (days > 0 && leg < LEGS_MOST) {
                    route[3 * leg + 2] = to;
                    land(leg + 1, to, daysOn + days, money, good, q);
                }
            }
        }

        private void buyNothing(int leg) {
            route[3 * leg] = NONE;
            route[3 * leg + 1] = 0;
        }

        private int widestSpread() {
            int widest = 0;
            for (int good = 0; good < goods; good++) {
                int least = PRICE_MOST;
                int most = 0;
                for (int isle = 0; isle < world.chart.isles; isle++) {
                    least = Math.min(least, prices[good][isle]);
                    most = Math.max(most, prices[good][isle]);
                }
                widest = Math.max(widest, most - least);
            }
            return widest;
        }

        private int lawfulAt(int isle, int daysOn) {
            int place = daysOn * ISLES_MOST + isle;
            return place >= 0 && place < lawful.length ? lawful[place] : 0;
        }

        private void keep(int money) {
            if (money > bestMoney) {
                bestMoney = money;
                System.arraycopy(route, 0, bestRoute, 0, route.length);
            }
        }
    }
}

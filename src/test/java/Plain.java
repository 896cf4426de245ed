import java.util.ArrayList;
import java.util.Arrays;
import java.util.HashMap;
import java.util.HashSet;
import java.util.List;
import java.util.Map;
import java.util.Set;

/** The document told a second time, as plainly as the Java library allows: no speed, no saving. */
final class Plain {
    static final int NONE = -1;
    static final int HIDDEN = -1000000;

    String tape = "";
    int isles;
    int[] taboos = {};
    Map<String, Integer> ways = new HashMap<>();
    List<String> customs = new ArrayList<>();
    int[] customOf = {};
    int hand = 9;
    int[] weights = new int[1000];
    List<int[]> prices = new ArrayList<>();
    int today;
    List<int[]> changes = new ArrayList<>();
    List<int[]> said = new ArrayList<>();
    Object[] image;

    Plain() {
        Arrays.fill(weights, 1);
    }

    int feed(int[] words) {
        StringBuilder more = new StringBuilder(tape);
        for (int word : words) {
            for (int k = 3; k >= 0; k--) {
                char sign = (char) (word >> 8 * k & 255);
                if (sign != 0) {
                    more.append(sign);
                }
            }
        }
        if (more.length() > 160) {
            return NONE;
        }
        tape = more.toString();
        return tape.length();
    }

    boolean end(int n) {
        if (n < 0 || n > tape.length()) {
            return false;
        }
        tape = tape.substring(0, n);
        return true;
    }

    int fault(int sort) {
        return sort == 0 ? islesFault(tape) : sort == 1 ? customFault(tape) : -2;
    }

    // ---- texts: machines that take sign by sign, for the first that none of their states takes

    static int islesFault(String text) {
        String state = "number";
        int count = 0;
        int digits = 0;
        boolean gap = false;
        char one = 0;
        Set<String> pairs = new HashSet<>();
        for (int at = 0; at < text.length(); at++) {
            char c = text.charAt(at);
            if (c == ' ') {
                gap = digits > 0;
                continue;
            }
            boolean ok = false;
            switch (state) {
                case "number":
                    if (c >= '0' && c <= '9' && digits < 2 && !gap) {
                        digits++;
                        ok = true;
                    } else if (c == ',' && digits > 0 && count < 5) {
                        count++;
                        digits = 0;
                        ok = true;
                    } else if (c == ';' && digits > 0 && count >= 1) {
                        count++;
                        digits = 0;
                        state = "one";
                        ok = true;
                    }
                    gap = false;
                    break;
                case "one":
                    ok = c >= 'a' && c < 'a' + count;
                    one = c;
                    state = "other";
                    break;
                case "other":
                    ok = c >= 'a' && c < 'a' + count && c != one && pairs.add("" + one + c) && pairs.add("" + c + one);
                    state = "days";
                    break;
                case "days":
                    ok = c >= '1' && c <= '9';
                    state = "behind";
                    break;
                default:
                    ok = c == ',';
                    state = "one";
                    break;
            }
            if (!ok) {
                return at;
            }
        }
        return state.equals("behind") ? NONE : text.length();
    }

    static int customFault(String text) {
        // open: each of ( [ ! that is open, and C for the CLAUSE; a [ has with it whether its unit was compared
        StringBuilder open = new StringBuilder();
        List<Boolean> comparedOutside = new ArrayList<>();
        String state = "y";
        boolean compared = false;
        boolean unitStart = false;
        boolean bare = false;
        boolean answer = false;
        boolean closed = false;
        int digits = 0;
        boolean gap = false;
        for (int at = 0; at < text.length(); at++) {
            char c = text.charAt(at);
            if (c == ' ') {
                gap = true;
                continue;
            }
            if (state.equals("behind") && digits > 0 && !gap && c >= '0' && c <= '9') {
                digits++;
                if (digits > 4) {
                    return at;
                }
                continue;
            }
            gap = false;
            if (state.equals("y")) {
                if (c != 'y') {
                    return at;
                }
                state = ":";
            } else if (state.equals(":")) {
                if (c != ':') {
                    return at;
                }
                state = "operand";
                unitStart = true;
                bare = true;
                answer = false;
                compared = false;
            } else if (state.equals("operand")) {
                if (unitStart && (c == '!' || c == '(')) {
                    if (open.length() == 6) {
                        return at;
                    }
                    open.append(c);
                    bare = false;
                } else if (c == '[') {
                    if (open.length() == 6) {
                        return at;
                    }
                    open.append(c);
                    comparedOutside.add(compared);
                    unitStart = false;
                } else if ("ntslid".indexOf(c) >= 0 || c >= '0' && c <= '9') {
                    digits = c >= '0' && c <= '9' ? 1 : 0;
                    closed = false;
                    state = "behind";
                } else {
                    return at;
                }
            } else {
                digits = 0;
                boolean inBrackets = open.length() > 0 && open.charAt(open.length() - 1) == '[';
                if (!closed && "+-*/".indexOf(c) >= 0) {
                    state = "operand";
                    unitStart = false;
                } else if (inBrackets) {
                    if (c != ']') {
                        return at;
                    }
                    open.setLength(open.length() - 1);
                    compared = comparedOutside.remove(comparedOutside.size() - 1);
                } else if (answer) {
                    if (c != ';') {
                        return at;
                    }
                    state = "y";
                } else if (!compared && !closed) {
                    if (c == ';' && bare) {
                        state = "y";
                    } else if ("=<>".indexOf(c) >= 0) {
                        compared = true;
                        bare = false;
                        unitStart = false;
                        state = "operand";
                    } else {
                        return at;
                    }
                } else {
                    while (open.length() > 0 && open.charAt(open.length() - 1) == '!') {
                        open.setLength(open.length() - 1);
                    }
                    if (c == '&' || c == '|') {
                        compared = false;
                        closed = false;
                        unitStart = true;
                        state = "operand";
                    } else if (c == ')' && open.length() > 0) {
                        open.setLength(open.length() - 1);
                        closed = true;
                        compared = true;
                    } else if (c == '?' && open.length() == 0) {
                        answer = true;
                        closed = false;
                        unitStart = false;
                        state = "operand";
                    } else {
                        return at;
                    }
                }
            }
        }
        boolean whole = state.equals("behind") && open.length() == 0 && (answer || bare && !compared);
        return whole ? NONE : text.length();
    }

    int text(int sort) {
        if (sort < 0 || sort > 1 || fault(sort) != NONE || sort == 1 && customs.size() == 4) {
            return NONE;
        }
        String told = tape.replace(" ", "");
        tape = "";
        if (sort == 1) {
            customs.add(told);
            return customs.size() - 1;
        }
        String[] halves = told.split(";");
        String[] numbers = halves[0].split(",");
        isles = numbers.length;
        taboos = new int[isles];
        for (int k = 0; k < isles; k++) {
            taboos[k] = Integer.parseInt(numbers[k]);
        }
        ways.clear();
        for (String way : halves[1].split(",")) {
            int one = way.charAt(0) - 'a';
            int other = way.charAt(1) - 'a';
            ways.put(one + " " + other, way.charAt(2) - '0');
            ways.put(other + " " + one, way.charAt(2) - '0');
        }
        customOf = new int[isles];
        Arrays.fill(customOf, NONE);
        prices.clear();
        today = 0;
        changes.clear();
        said.clear();
        image = null;
        return isles;
    }

    // ---- WORTH, read from the text each time

    static int clamp(long v) {
        return (int) Math.max(-1000000, Math.min(1000000, v));
    }

    static int worth(String custom, int n, int t, int i, int d) {
        Map<Character, Integer> letters = new HashMap<>();
        letters.put('n', n);
        letters.put('t', t);
        letters.put('l', Integer.parseInt(("" + n).substring(("" + n).length() - 1)));
        letters.put('i', i);
        letters.put('d', d);
        int s = 0;
        for (char c : ("" + n).toCharArray()) {
            s += c - '0';
        }
        letters.put('s', s);
        for (String clause : custom.split(";")) {
            String rest = clause.substring(2);
            int ask = rest.indexOf('?');
            if (ask < 0 || holds(rest.substring(0, ask), letters)) {
                return sum(rest.substring(ask + 1), letters);
            }
        }
        return 0;
    }

    /** The last place outside of all brackets of one of these signs, or -1. */
    static int lastOf(String text, String signs) {
        int depth = 0;
        for (int at = text.length() - 1; at >= 0; at--) {
            char c = text.charAt(at);
            if (c == ')' || c == ']') {
                depth++;
            } else if (c == '(' || c == '[') {
                depth--;
            } else if (depth == 0 && signs.indexOf(c) >= 0) {
                return at;
            }
        }
        return -1;
    }

    static boolean holds(String text, Map<Character, Integer> letters) {
        int at = lastOf(text, "|");
        if (at >= 0) {
            return holds(text.substring(0, at), letters) || holds(text.substring(at + 1), letters);
        }
        at = lastOf(text, "&");
        if (at >= 0) {
            return holds(text.substring(0, at), letters) && holds(text.substring(at + 1), letters);
        }
        if (text.charAt(0) == '!') {
            return !holds(text.substring(1), letters);
        }
        if (text.charAt(0) == '(') {
            return holds(text.substring(1, text.length() - 1), letters);
        }
        at = lastOf(text, "=<>");
        int one = sum(text.substring(0, at), letters);
        int other = sum(text.substring(at + 1), letters);
        return text.charAt(at) == '=' ? one == other : text.charAt(at) == '<' ? one < other : one > other;
    }

    static int sum(String text, Map<Character, Integer> letters) {
        int at = lastOf(text, "+-");
        if (at < 0) {
            at = lastOf(text, "*/");
        }
        if (at >= 0) {
            long one = sum(text.substring(0, at), letters);
            long other = sum(text.substring(at + 1), letters);
            switch (text.charAt(at)) {
                case '+':
                    return clamp(one + other);
                case '-':
                    return clamp(one - other);
                case '*':
                    return clamp(one * other);
                default:
                    return other == 0 ? 0 : clamp(one / other);
            }
        }
        if (text.charAt(0) == '[') {
            return sum(text.substring(1, text.length() - 1), letters);
        }
        Integer letter = letters.get(text.charAt(0));
        return letter != null ? letter : Integer.parseInt(text);
    }

    // ---- what is FORBIDDEN

    boolean isIsle(int isle) {
        return isle >= 0 && isle < isles;
    }

    static boolean in(int v, int least, int most) {
        return v >= least && v <= most;
    }

    int tabooOn(int isle, int day) {
        for (int back = day; back >= 0; back--) {
            for (int k = changes.size() - 1; k >= 0; k--) {
                int[] change = changes.get(k);
                if (change[0] == isle && change[1] == back) {
                    return change[2];
                }
            }
        }
        return taboos[isle];
    }

    boolean no(int isle, int number, int day) {
        return noBy(isle, number, day, tabooOn(isle, day));
    }

    final Map<String, Boolean> remembered = new HashMap<>();

    boolean noBy(int isle, int number, int day, int taboo) {
        if (number == 0) {
            return false;
        }
        if (number == taboo) {
            return true;
        }
        if (customOf[isle] == NONE) {
            return false;
        }
        String custom = customs.get(customOf[isle]);
        String key = custom + " " + number + " " + taboo + " " + isle + " " + day;
        return remembered.computeIfAbsent(key, k -> worth(custom, number, taboo, isle, day) > 0);
    }

    int way(int one, int other) {
        return ways.getOrDefault(one + " " + other, NONE);
    }

    boolean custom(int isle, int custom) {
        if (!isIsle(isle) || !in(custom, -1, customs.size() - 1)) {
            return false;
        }
        customOf[isle] = custom;
        return true;
    }

    int forbidden(int isle, int number, int day) {
        if (!isIsle(isle) || !in(number, 0, 999) || !in(day, 0, 99)) {
            return NONE;
        }
        return no(isle, number, day) ? 1 : 0;
    }

    boolean hand(int v) {
        if (in(v, 1, 20)) {
            hand = v;
            return true;
        }
        return false;
    }

    // ---- PAID

    /** What numbers a row must do without. */
    interface Bar {
        boolean no(int number);
    }

    /** The totals that rows of 0, 1, 2 .. parts come to. */
    List<Set<Integer>> layers(Bar bar, int rules, int hand, int from, int longest) {
        List<Set<Integer>> layers = new ArrayList<>();
        layers.add(new HashSet<>(List.of(from)));
        for (int k = 1; k <= longest; k++) {
            Set<Integer> next = new HashSet<>();
            for (int total : layers.get(k - 1)) {
                for (int part = 1; part <= hand && total + part <= 200; part++) {
                    boolean badPart = (rules & 1) != 0 && bar.no(part);
                    boolean badTotal = (rules & 2) != 0 && bar.no(total + part);
                    if (!badPart && !badTotal) {
                        next.add(total + part);
                    }
                }
            }
            layers.add(next);
        }
        return layers;
    }

    int fewest(Bar bar, int rules, int hand, int sum) {
        List<Set<Integer>> layers = layers(bar, rules, hand, 0, 60);
        for (int k = 1; k <= 60; k++) {
            if (layers.get(k).contains(sum) && !((rules & 4) != 0 && bar.no(k))) {
                return k;
            }
        }
        return NONE;
    }

    List<Integer> row(Bar bar, int rules, int hand, int sum) {
        int parts = fewest(bar, rules, hand, sum);
        if (parts == NONE) {
            return null;
        }
        List<Integer> row = new ArrayList<>();
        int total = 0;
        for (int left = parts - 1; left >= 0; left--) {
            for (int part = hand; part > 0; part--) {
                boolean badPart = (rules & 1) != 0 && bar.no(part);
                boolean badTotal = (rules & 2) != 0 && bar.no(total + part);
                if (total + part <= sum && !badPart && !badTotal
                        && layers(bar, rules, hand, total + part, left).get(left).contains(sum)) {
                    row.add(part);
                    total += part;
                    break;
                }
            }
        }
        return row;
    }

    Bar barOf(int isle) {
        boolean[] no = new boolean[1000];
        for (int k = 1; k < 1000; k++) {
            no[k] = k <= 200 && no(isle, k, today);
        }
        return number -> no[number];
    }

    boolean isPayment(int isle, int sum, int rules) {
        return isIsle(isle) && in(sum, 1, 200) && in(rules, 0, 7);
    }

    static int place(List<Integer> list, int i) {
        return i == NONE ? list.size() : in(i, 0, list.size() - 1) ? list.get(i) : NONE;
    }

    int pay(int isle, int sum, int rules, int i) {
        List<Integer> row = isPayment(isle, sum, rules) ? row(barOf(isle), rules, hand, sum) : null;
        return row == null ? NONE : place(row, i);
    }

    long ways(int isle, int sum, int rules, int parts) {
        if (!isPayment(isle, sum, rules) || !in(parts, 1, 8)) {
            return NONE;
        }
        Bar bar = barOf(isle);
        if ((rules & 4) != 0 && bar.no(parts)) {
            return 0;
        }
        return waysFrom(bar, rules, 0, sum, parts, new HashMap<>());
    }

    long waysFrom(Bar bar, int rules, int total, int sum, int left, Map<String, Long> known) {
        if (left == 0) {
            return total == sum ? 1 : 0;
        }
        String key = total + " " + left;
        if (known.containsKey(key)) {
            return known.get(key);
        }
        long all = 0;
        for (int part = 1; part <= hand && total + part <= sum; part++) {
            boolean badPart = (rules & 1) != 0 && bar.no(part);
            boolean badTotal = (rules & 2) != 0 && bar.no(total + part);
            if (!badPart && !badTotal) {
                all += waysFrom(bar, rules, total + part, sum, left - 1, known);
            }
        }
        known.put(key, all);
        return all;
    }

    List<Integer> unpaid(Bar bar, int rules) {
        List<Set<Integer>> layers = layers(bar, rules, hand, 0, 60);
        Set<Integer> paid = new HashSet<>();
        for (int k = 1; k <= 60; k++) {
            if (!((rules & 4) != 0 && bar.no(k))) {
                paid.addAll(layers.get(k));
            }
        }
        List<Integer> unpaid = new ArrayList<>();
        for (int sum = 1; sum <= 200; sum++) {
            if (!paid.contains(sum)) {
                unpaid.add(sum);
            }
        }
        return unpaid;
    }

    int cant(int isle, int rules, int i) {
        return isIsle(isle) && in(rules, 0, 7) ? place(unpaid(barOf(isle), rules), i) : NONE;
    }

    void partitions(Bar bar, int left, int most, List<Integer> groups, List<List<Integer>> all) {
        if (left == 0) {
            if (!bar.no(groups.size())) {
                all.add(new ArrayList<>(groups));
            }
            return;
        }
        for (int size = Math.min(left, most); size > 0; size--) {
            if (!bar.no(size)) {
                groups.add(size);
                partitions(bar, left - size, size, groups, all);
                groups.remove(groups.size() - 1);
            }
        }
    }

    List<List<Integer>> partitions(int isle, int many) {
        List<List<Integer>> all = new ArrayList<>();
        partitions(barOf(isle), many, many, new ArrayList<>(), all);
        return all;
    }

    int family(int isle, int many, int i) {
        if (!isIsle(isle) || !in(many, 1, 30)) {
            return NONE;
        }
        List<Integer> best = null;
        for (List<Integer> groups : partitions(isle, many)) {
            if (best == null || groups.size() < best.size()) {
                best = groups;
            }
        }
        return best == null ? NONE : place(best, i);
    }

    int splits(int isle, int many) {
        return isIsle(isle) && in(many, 1, 30) ? partitions(isle, many).size() : NONE;
    }

    // ---- DATES and debts, and a bit

    List<Integer> dates(int isle, int day) {
        List<Integer> dates = new ArrayList<>();
        for (int date = 1; date <= 30; date++) {
            if (!no(isle, date, day)) {
                dates.add(date);
            }
        }
        return dates;
    }

    int date(int isle, int k) {
        if (!isIsle(isle) || k == 0 || k < NONE) {
            return NONE;
        }
        return place(dates(isle, today), k == NONE ? NONE : k - 1);
    }

    int debt(int isle, int date, int what) {
        if (!isIsle(isle) || !in(date, 1, 30) || !in(what, 0, 1) || dates(isle, today).isEmpty()) {
            return NONE;
        }
        for (int d : dates(isle, today)) {
            if (d >= date) {
                return what == 0 ? d : 0;
            }
        }
        return what == 0 ? dates(isle, today).get(0) : 1;
    }

    List<Integer> bits(int isle, int m) {
        if (!isIsle(isle) || !in(m, 0, 200) || no(isle, m, today)) {
            return null;
        }
        List<Integer> bits = new ArrayList<>();
        for (int k = m + 1; k <= 999 && no(isle, k, today); k++) {
            bits.add(k);
        }
        return bits;
    }

    int bit(int isle, int m, int i) {
        return bits(isle, m) == null ? NONE : place(bits(isle, m), i);
    }

    boolean weight(int number, int v) {
        if (in(number, 1, 99) && in(v, 0, 99)) {
            weights[number] = v;
            return true;
        }
        return false;
    }

    int likely(int isle, int m, int i) {
        List<Integer> bits = bits(isle, m);
        if (bits == null || !in(i, 0, bits.size() - 1)) {
            return NONE;
        }
        long whole = 0;
        for (int b : bits) {
            whole += weights[b];
        }
        return whole == 0 ? NONE : (int) (1000000L * weights[bits.get(i)] / whole);
    }

    // ---- GOODS

    int good() {
        if (isles == 0 || prices.size() == 3) {
            return NONE;
        }
        int[] price = new int[isles];
        Arrays.fill(price, 10);
        prices.add(price);
        return prices.size() - 1;
    }

    boolean price(int good, int isle, int v) {
        if (in(good, 0, prices.size() - 1) && isIsle(isle) && in(v, 1, 99)) {
            prices.get(good)[isle] = v;
            return true;
        }
        return false;
    }

    int deal(int good, int isle, int q, int day) {
        if (!in(good, 0, prices.size() - 1) || !isIsle(isle) || !in(q, 1, 6) || !in(day, 0, 99)) {
            return NONE;
        }
        int sum = q * prices.get(good)[isle];
        if (sum > 200 || no(isle, q, day) || no(isle, sum, day)) {
            return 0;
        }
        // rules 3 bar no number of PARTS, but a row of more than 60 is none
        Set<Integer> ends = new HashSet<>(List.of(0));
        for (int parts = 1; parts <= 60; parts++) {
            Set<Integer> next = new HashSet<>();
            for (int total : ends) {
                for (int part = 1; part <= hand && total + part <= sum; part++) {
                    if (!no(isle, part, day) && !no(isle, total + part, day)) {
                        next.add(total + part);
                    }
                }
            }
            if (next.contains(sum)) {
                return 1;
            }
            ends = next;
        }
        return 0;
    }

    final Map<String, Integer> dealt = new HashMap<>();

    int dealOnVoyage(int good, int isle, int q, int day) {
        return dealt.computeIfAbsent(good + " " + isle + " " + q + " " + day, k -> deal(good, isle, q, day));
    }

    /** All voyages: money at the end, then the route. */
    void voyages(int isle, int day, int money, int good, int q, int hold, int legs, List<Integer> route,
            List<List<Integer>> all) {
        int asked = Math.min(day, 99);
        if (q > 0 && dealOnVoyage(good, isle, q, asked) == 1) {
            money += q * prices.get(good)[isle];
            q = 0;
        }
        if (legs == 0) {
            List<Integer> one = new ArrayList<>(List.of(money));
            one.addAll(route);
            all.add(one);
            return;
        }
        for (int to = 0; to < isles; to++) {
            int days = way(isle, to);
            if (days == NONE) {
                continue;
            }
            List<Integer> next = new ArrayList<>(route);
            next.addAll(List.of(NONE, 0, to));
            voyages(to, day + days, money, good, q, hold, legs - 1, next, all);
            for (int g = 0; g < prices.size() && q == 0; g++) {
                for (int many = 1; many <= hold; many++) {
                    int cost = many * prices.get(g)[isle];
                    if (cost <= money && dealOnVoyage(g, isle, many, asked) == 1) {
                        next = new ArrayList<>(route);
                        next.addAll(List.of(g, many, to));
                        voyages(to, day + days, money - cost, g, many, hold, legs - 1, next, all);
                    }
                }
            }
        }
    }

    int gain(int isle, int money, int hold, int legs, int step) {
        if (!isIsle(isle) || !in(money, 0, 999) || !in(hold, 1, 6) || !in(legs, 0, 3) || !in(step, -1, 3 * legs - 1)) {
            return HIDDEN;
        }
        List<List<Integer>> all = new ArrayList<>();
        dealt.clear();
        voyages(isle, today, money, NONE, 0, hold, legs, new ArrayList<>(), all);
        List<Integer> best = null;
        for (List<Integer> one : all) {
            if (best == null || better(one, best)) {
                best = one;
            }
        }
        return best == null ? HIDDEN : step == NONE ? best.get(0) - money : best.get(step + 1);
    }

    static boolean better(List<Integer> one, List<Integer> best) {
        if (!one.get(0).equals(best.get(0))) {
            return one.get(0) > best.get(0);
        }
        for (int k = 1; k < one.size(); k++) {
            if (!one.get(k).equals(best.get(k))) {
                return one.get(k) < best.get(k);
            }
        }
        return false;
    }

    // ---- DAYS

    boolean today(int day) {
        if (in(day, 0, 99)) {
            today = day;
            return true;
        }
        return false;
    }

    int change(int isle, int day, int taboo) {
        if (!isIsle(isle) || !in(day, 0, 99) || !in(taboo, 0, 99) || changes.size() == 20) {
            return NONE;
        }
        changes.add(new int[] {isle, day, taboo});
        return changes.size();
    }

    long x;

    int draw(int m) {
        x = x * 6364136223846793005L + 1442695040888963407L;
        return (int) (x >>> 33) % m;
    }

    int drown(int days, int risk, long seed) {
        if (isles == 0 || !in(days, 1, 99) || !in(risk, 0, 100)) {
            return NONE;
        }
        x = seed;
        int came = 0;
        for (; days > 0; days--) {
            today = today == 99 ? 99 : today + 1;
            for (int isle = 0; isle < isles; isle++) {
                if (changes.size() == 20) {
                    continue;
                }
                if (draw(100) < risk) {
                    came++;
                    changes.add(new int[] {isle, today, 1 + draw(12)});
                }
            }
        }
        return came;
    }

    int say(int isle, int number) {
        if (!isIsle(isle) || !in(number, 0, 999) || said.size() == 40) {
            return NONE;
        }
        said.add(new int[] {isle, number, today});
        return said.size();
    }

    int breach(int i) {
        if (isles == 0) {
            return NONE;
        }
        List<Integer> places = new ArrayList<>();
        for (int k = 0; k < said.size(); k++) {
            if (no(said.get(k)[0], said.get(k)[1], said.get(k)[2])) {
                places.add(k);
            }
        }
        return place(places, i);
    }

    int fines(int isle) {
        if (!isIsle(isle)) {
            return NONE;
        }
        int all = 0;
        for (int[] one : said) {
            all += one[0] == isle && no(isle, one[1], one[2]) ? one[1] : 0;
        }
        return all;
    }

    int safe(int isle, int n) {
        if (!isIsle(isle) || !in(n, 0, 99)) {
            return NONE;
        }
        for (int number = 1; number <= 999; number++) {
            boolean safe = true;
            for (int day = today; safe && day <= today + n && day <= 99; day++) {
                safe = !no(isle, number, day);
            }
            if (safe) {
                return number;
            }
        }
        return NONE;
    }

    int best(int isle, int reach, int goal, int last, Map<Integer, Integer> known) {
        if (known.containsKey(last)) {
            return known.get(last);
        }
        int move = NONE;
        for (int more = 1; more <= reach && move == NONE; more++) {
            int next = last + more;
            if (next <= goal && !no(isle, next, today)
                    && (next == goal || best(isle, reach, goal, next, known) == NONE)) {
                move = next;
            }
        }
        known.put(last, move);
        return move;
    }

    int game(int isle, int reach, int goal, int from, int what) {
        if (!isIsle(isle) || !in(reach, 1, 9) || !in(goal, 1, 200) || !in(from, 0, goal - 1) || !in(what, 0, 1)) {
            return HIDDEN;
        }
        int move = best(isle, reach, goal, from, new HashMap<>());
        return what == 1 ? move : move == NONE ? 0 : 1;
    }

    int spoken(int isle, int number) {
        if (!isIsle(isle) || !in(number, 0, 999)) {
            return NONE;
        }
        while (no(isle, number, today)) {
            number--;
        }
        return number;
    }

    int carried(int number, int row, int many) {
        if (!in(number, 0, 999) || row < 0 || !in(many, 1, 8)) {
            return NONE;
        }
        String digits = "" + row;
        while (digits.length() < many) {
            digits = "0" + digits;
        }
        if (digits.length() > many) {
            return NONE;
        }
        for (char c : digits.toCharArray()) {
            if (!isIsle(c - '0')) {
                return NONE;
            }
        }
        for (char c : digits.toCharArray()) {
            number = spoken(c - '0', number);
        }
        return number;
    }

    int near(int isle, int sum, int rules) {
        if (!isPayment(isle, sum, rules)) {
            return NONE;
        }
        List<Integer> unpaid = unpaid(barOf(isle), rules);
        int nearest = NONE;
        for (int other = 1; other <= 200; other++) {
            boolean nearer = nearest == NONE || Math.abs(other - sum) < Math.abs(nearest - sum);
            if (!unpaid.contains(other) && nearer) {
                nearest = other;
            }
        }
        return nearest;
    }

    int joint(int one, int other, int sum, int rules) {
        if (!isPayment(one, sum, rules) || !isIsle(other) || one == other) {
            return NONE;
        }
        Bar a = barOf(one);
        Bar b = barOf(other);
        return fewest(number -> a.no(number) || b.no(number), rules, hand, sum);
    }

    int worst(int isle, int rules, int what) {
        if (!isIsle(isle) || !in(rules, 0, 7) || !in(what, 0, 1)) {
            return NONE;
        }
        int worst = 0;
        int most = -1;
        for (int taboo = 1; taboo <= 30; taboo++) {
            boolean[] no = new boolean[1000];
            for (int k = 1; k <= 200; k++) {
                no[k] = noBy(isle, k, today, taboo);
            }
            int many = unpaid(number -> no[number], rules).size();
            if (many > most) {
                most = many;
                worst = taboo;
            }
        }
        return what == 0 ? worst : most;
    }

    int owes() {
        int owes = NONE;
        for (int isle = isles - 1; isle >= 0; isle--) {
            if (fines(isle) > 0 && (owes == NONE || fines(isle) >= fines(owes))) {
                owes = isle;
            }
        }
        return owes;
    }

    List<Integer> calendarOf(int isle, int k) {
        List<Integer> calendar = new ArrayList<>();
        int last = 0;
        for (int on = 0; on <= k; on++) {
            List<Integer> dates = dates(isle, Math.min(99, today + on));
            if (dates.isEmpty()) {
                return null;
            }
            int next = dates.get(0);
            for (int d : dates) {
                if (d > last) {
                    next = d;
                    break;
                }
            }
            calendar.add(next);
            last = next;
        }
        return calendar;
    }

    int calendar(int isle, int k) {
        if (!isIsle(isle) || !in(k, 0, 60) || calendarOf(isle, k) == null) {
            return NONE;
        }
        return calendarOf(isle, k).get(k);
    }

    int twins(int one, int other, int k) {
        if (!isIsle(one) || !isIsle(other) || one == other || !in(k, 0, 60)) {
            return NONE;
        }
        List<Integer> a = calendarOf(one, k);
        List<Integer> b = calendarOf(other, k);
        if (a == null || b == null) {
            return NONE;
        }
        int same = 0;
        for (int on = 0; on <= k; on++) {
            same += a.get(on).equals(b.get(on)) ? 1 : 0;
        }
        return same;
    }

    int image() {
        if (isles == 0) {
            return NONE;
        }
        image = new Object[] {today, new ArrayList<>(changes), new ArrayList<>(said)};
        return today;
    }

    @SuppressWarnings("unchecked")
    int back() {
        if (image == null) {
            return NONE;
        }
        today = (Integer) image[0];
        changes = new ArrayList<>((List<int[]>) image[1]);
        said = new ArrayList<>((List<int[]>) image[2]);
        return today;
    }

    int count(int what) {
        int[] counts = {isles, customs.size(), tape.length(), today, changes.size(), said.size(), prices.size(), hand};
        return in(what, 0, 7) ? counts[what] : HIDDEN;
    }
}

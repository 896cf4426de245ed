import java.util.ArrayList;
import java.util.List;
import java.util.NoSuchElementException;

/** All that can be asked of an object, asked: objects that were told alike answer alike. */
final class Asked {
    private final TabooIsles x;
    private final List<String> calls = new ArrayList<>();
    private final List<Long> answers = new ArrayList<>();

    private Asked(TabooIsles isles) {
        x = isles;
    }

    /** Asks both what changes nothing, then all else; an object stands some 350 calls of it. */
    static void alike(Check check, TabooIsles one, TabooIsles other) {
        Asked ofOne = new Asked(one);
        Asked ofOther = new Asked(other);
        ofOne.all();
        ofOther.all();
        ofOne.compare(check, ofOther);
    }

    /** Asks the same questions twice: none of them changes what another answers. */
    static void twice(Check check, TabooIsles one) {
        Asked first = new Asked(one);
        Asked second = new Asked(one);
        first.questions();
        second.questions();
        second.compare(check, first);
    }

    private void compare(Check check, Asked due) {
        check.due("how many answers", due.answers.size(), answers.size());
        for (int k = 0; k < answers.size() && k < due.answers.size(); k++) {
            check.due("afterwards " + calls.get(k), due.answers.get(k), answers.get(k));
        }
    }

    private void add(String call, long answer) {
        calls.add(call);
        answers.add(answer);
    }

    private void all() {
        questions();
        weights();
        customs();
        image();
        tape();
    }

    private void questions() {
        counts();
        int isles = Math.min(3, x.count(0));
        for (int isle = 0; isle < isles; isle++) {
            ofIsle(isle);
            sums(isle);
            days(isle);
            trade(isle);
        }
        add("ways between", x.way(0, 1) * 100 + x.way(1, 2) * 10 + x.way(2, 0));
        add("joint", x.joint(0, 1, 77, 7));
        add("twins", x.twins(0, 2, 60));
        add("carried", x.carried(50, 120, 3));
        add("owes", x.owes());
    }

    private void counts() {
        for (int what = 0; what < 8; what++) {
            add("count " + what, x.count(what));
        }
        add("fault 0", x.fault(0));
        add("fault 1", x.fault(1));
        add("breach", x.breach(-1));
        add("first breach", x.breach(0));
        add("last breach", x.breach(x.breach(-1) - 1));
    }

    private long taboo(int isle, int day) {
        try {
            return x.taboo(isle, day);
        } catch (NoSuchElementException e) {
            return -7;
        }
    }

    private void ofIsle(int isle) {
        for (int day : new int[] {0, 2, 5, 6, 90, 98, 99}) {
            add("taboo " + isle + " " + day, taboo(isle, day));
        }
        for (int number : new int[] {1, 44, 200, 999}) {
            add("forbidden " + isle + " " + number, x.forbidden(isle, number, x.count(3)));
        }
        add("date " + isle, x.date(isle, -1));
        add("debt " + isle, x.debt(isle, 29, 0));
        add("bit " + isle, x.bit(isle, 40, -1));
        add("likely " + isle, x.likely(isle, 40, 0));
        add("spoken " + isle, x.spoken(isle, 99));
    }

    private void sums(int isle) {
        add("pay " + isle, x.pay(isle, 88, 7, -1));
        add("pay, the first " + isle, x.pay(isle, 88, 7, 0));
        add("ways " + isle, x.ways(isle, 30, 7, 5));
        add("cant " + isle, x.cant(isle, 6, -1));
        add("family " + isle, x.family(isle, 29, 0));
        add("splits " + isle, x.splits(isle, 29));
        add("near " + isle, x.near(isle, 200, 2));
        add("worst " + isle, x.worst(isle, 3, 1));
    }

    private void days(int isle) {
        add("fines " + isle, x.fines(isle));
        add("safe " + isle, x.safe(isle, 99));
        add("game " + isle, x.game(isle, 7, 199, 0, 1));
        add("calendar " + isle, x.calendar(isle, 60));
    }

    private void trade(int isle) {
        for (int good = 0; good < 3; good++) {
            add("deal " + good + " " + isle, x.deal(good, isle, 2, x.count(3)));
        }
        for (int step = -1; step < 3; step++) {
            add("gain " + isle + " " + step, x.gain(isle, 40, 6, 2, step));
        }
    }

    /** By a CUSTOM of which all below 100 are meant by 0 and a bit. */
    private void weights() {
        x.custom(0, 0);
        for (int i = 0; i < 99; i++) {
            add("likely of " + (i + 1), x.likely(0, 0, i));
        }
    }

    private void customs() {
        for (int custom = 0; custom < 4; custom++) {
            x.custom(0, custom);
            add("custom " + custom, x.cant(0, 3, -1));
            add("last of custom " + custom, x.bit(0, 200, -1));
        }
    }

    private void image() {
        add("back", x.back());
        for (int what = 3; what < 6; what++) {
            add("behind back, count " + what, x.count(what));
        }
        add("behind back, breaches", x.breach(-1));
        add("behind back, taboo", taboo(0, 99) * 100 + taboo(1, 99));
    }

    private void tape() {
        add("text", x.text(0));
        add("its isles", x.count(0));
        add("its first taboo", taboo(0, 0));
        add("its second taboo", taboo(1, 0));
        add("its way", x.way(0, 1));
    }
}

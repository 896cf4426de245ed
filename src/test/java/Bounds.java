import java.util.function.Consumer;
import java.util.function.IntPredicate;
import java.util.function.Supplier;

/** What the tests of bounds share. */
abstract class Bounds {
    static final int LEAST = Integer.MIN_VALUE;
    static final int MOST = Integer.MAX_VALUE;
    static final int NONE = -1;
    static final int HIDDEN = -1000000;
    static final String NO_TABOOS = "0,0,0;ab1";
    static final String TWO = "0,0;ab1";
    static final String SIX = "0,0,0,0,0,0;af1";
    static final String BLANKS = " ".repeat(160);

    static final Check CHECK = new Check();

    static void due(String call, long want, long got) {
        CHECK.due(call, want, got);
    }

    static void due(String call, boolean want, boolean got) {
        CHECK.due(call, want, got);
    }

    /** All numbers of least .. most are taken (of a long row those near its ends), none around them. */
    static void bounds(String of, int least, int most, IntPredicate taken) {
        for (int v = least; v <= most; v++) {
            if (v < least + 50 || v > most - 50) {
                due(of + " " + v + " is taken", true, taken.test(v));
            }
        }
        int[] outside = {least - 1, least - 2, most + 1, most + 2, least + 256, most + 256, least - 256, least + 65536,
            least - 65536, -most, LEAST, LEAST + 1, LEAST + least, MOST - 1, MOST};
        for (int v : outside) {
            if (v < least || v > most) {
                due(of + " " + v + " is taken", false, taken.test(v));
            }
        }
    }

    /** A call that may be asked of an isle of any number. */
    interface OfIsle {
        boolean taken(TabooIsles isles, int isle);
    }

    /** The isles told are taken alone: of none, of two, of six. */
    static void isles(OfIsle call) {
        bounds("of two, isle", 0, 1, isle -> call.taken(Check.isles(TWO), isle));
        bounds("of six, isle", 0, 5, isle -> call.taken(Check.isles(SIX), isle));
        for (int isle : new int[] {LEAST, -1, 0, 1, 5, 6, MOST}) {
            due("of none, isle " + isle, false, call.taken(new TabooIsles(), isle));
        }
    }

    /** ISLES without TABOOS, a .. c, the last of them with this CUSTOM. */
    static TabooIsles withCustom(String custom) {
        return Check.customs(Check.isles(NO_TABOOS), 2, custom);
    }

    /** What was refused changes nothing: of two told alike one is asked it, and both answer all alike afterwards. */
    static void unchanged(Supplier<TabooIsles> told, Consumer<TabooIsles> refused) {
        TabooIsles one = told.get();
        TabooIsles other = told.get();
        refused.accept(one);
        Asked.alike(CHECK, one, other);
    }

    /** What was refused changes nothing of what has been told, nor of what is full, nor of a new object. */
    static void refused(Consumer<TabooIsles> refused) {
        unchanged(Bounds::told, refused);
        unchanged(Bounds::full, refused);
    }

    /** Something of all is told, and there is room for more. The tape holds other ISLES. */
    static TabooIsles told() {
        TabooIsles x = Check.isles("7,4,0;ab3,bc2");
        Check.tell(x, 1, "y:n<100?1");
        Check.customs(x, 2, "y:n>40&n<50|n=t+d?1");
        x.hand(8);
        x.weight(1, 0);
        x.weight(50, 7);
        x.weight(99, 99);
        x.good();
        x.good();
        x.price(0, 0, 5);
        x.price(0, 1, 9);
        x.price(1, 2, 31);
        x.today(4);
        x.change(0, 2, 9);
        x.say(0, 9);
        x.image();
        x.today(6);
        x.change(1, 6, 12);
        x.change(1, 99, 3);
        x.say(1, 12);
        x.say(2, 45);
        return Check.tape(x, "8,9;ab4");
    }

    /** As many as there may be of all. The tape holds other ISLES and blanks. */
    static TabooIsles full() {
        TabooIsles x = Check.isles("7,4,0,9,8,99;ab3,bc2,cd9,ce9,cf9");
        Check.tell(x, 1, "y:n<100?1");
        Check.customs(x, 2, "y:n=20|n=200?1");
        Check.customs(x, 1, "y:n/100=9?1");
        Check.customs(x, 0, "y:n=29?1");
        x.hand(20);
        for (int good = 0; good < 3; good++) {
            x.good();
            x.price(good, 0, 7 + good);
            x.price(good, 1, 90 + good);
        }
        x.today(98);
        x.change(0, 98, 28);
        x.say(0, 7);
        x.image();
        x.today(99);
        for (int k = 1; k < 20; k++) {
            x.change(k % 3, 80 + k, 2 * k);
        }
        for (int k = 1; k < 40; k++) {
            x.say(k % 3, 900 + k);
        }
        return Check.tape(x, "8,9;ab4" + BLANKS.substring(7));
    }
}

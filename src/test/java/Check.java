import java.util.NoSuchElementException;

/** What the tests share: answers compared, and texts told in feeds of twenty bytes. */
final class Check {
    private int wrong;
    private String test = "";

    /** From here on what is wrong is told under this name. */
    void begin(String name) {
        test = name + ": ";
    }

    void due(String call, long want, long got) {
        if (got != want) {
            wrong++;
            System.out.println(test + call + " answered " + got + ", due is " + want);
        }
    }

    void due(String call, boolean want, boolean got) {
        due(call, want ? 1 : 0, got ? 1 : 0);
    }

    void dueNoSuch(TabooIsles isles, int isle, int day) {
        try {
            due("taboo(" + isle + ", " + day + ") throws", 1, 0 * isles.taboo(isle, day));
        } catch (NoSuchElementException e) {
            due("the class thrown", true, e.getClass() == NoSuchElementException.class);
        }
    }

    int wrong() {
        return wrong;
    }

    void finish(String name) {
        System.out.println(wrong == 0 ? name + ": all answers are as due" : name + ": " + wrong + " answers are wrong");
        if (wrong != 0) {
            System.exit(1);
        }
    }

    static int[] words(String text, int from) {
        int[] words = new int[5];
        for (int k = 0; k < 20; k++) {
            int sign = from + k < text.length() ? text.charAt(from + k) : 0;
            words[k / 4] |= sign << (24 - k % 4 * 8);
        }
        return words;
    }

    /** The tape is this text alone. */
    static TabooIsles tape(TabooIsles isles, String text) {
        isles.end(0);
        return more(isles, text);
    }

    /** This text comes to the tape. */
    static TabooIsles more(TabooIsles isles, String text) {
        for (int from = 0; from < text.length(); from += 20) {
            int[] w = words(text, from);
            isles.feed(w[0], w[1], w[2], w[3], w[4]);
        }
        return isles;
    }

    static int tell(TabooIsles isles, int sort, String text) {
        return tape(isles, text).text(sort);
    }

    static TabooIsles isles(String text) {
        TabooIsles isles = new TabooIsles();
        if (tell(isles, 0, text) < 2) {
            throw new IllegalStateException("not ISLES: " + text);
        }
        return isles;
    }

    /** Tells a custom and gives it to an isle. */
    static TabooIsles customs(TabooIsles isles, int isle, String text) {
        int number = tell(isles, 1, text);
        if (number < 0 || !isles.custom(isle, number)) {
            throw new IllegalStateException("not a CUSTOM: " + text);
        }
        return isles;
    }
}

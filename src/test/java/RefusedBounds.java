/** What promises 2 to 5 refuse changes nothing, and no question does. */
final class RefusedBounds extends Bounds {
    private RefusedBounds() {
    }

    static void promise02FeedRefusedChangesNothing() {
        unchanged(Bounds::full, x -> {
            due("one byte", -1, x.feed(0, 0, 0, 0, 1));
            due("one byte", -1, x.feed(0x01000000, 0, 0, 0, 0));
            due("twenty", -1, x.feed(-1, -1, -1, -1, -1));
            due("none", 160, x.feed(0, 0, 0, 0, 0));
        });
        unchanged(() -> {
            TabooIsles x = full();
            x.end(141);
            return x;
        }, x -> due("twenty", -1, x.feed(0x2c2c2c2c, 0x2c2c2c2c, 0x2c2c2c2c, 0x2c2c2c2c, 0x2c2c2c2c)));
    }

    static void promise03EndRefusedChangesNothing() {
        refused(x -> {
            for (int n : new int[] {-1, -2, 161, 162, LEAST, MOST}) {
                due("end " + n, false, x.end(n));
            }
        });
        unchanged(Bounds::told, x -> due("end 8 of 7", false, x.end(8)));
        unchanged(TabooIsles::new, x -> due("end 1 of none", false, x.end(1)));
    }

    static void promise04FaultChangesNothing() {
        refused(x -> {
            due("no fault", -1, x.fault(0));
            due("no custom", 0, x.fault(1));
            for (int sort : new int[] {-1, 2, 3, LEAST, MOST}) {
                due("sort " + sort, -2, x.fault(sort));
            }
        });
        unchanged(() -> Check.tape(told(), "9,8,7,6,5,4;fe9,ef1"), x -> {
            due("a fault", 17, x.fault(0));
            due("no custom", 0, x.fault(1));
        });
        unchanged(() -> Check.tape(told(), "y:0;y:n>0"), x -> {
            due("no isles", 0, x.fault(0));
            due("a fault", 9, x.fault(1));
        });
    }

    static void promise05TextRefusedChangesNothing() {
        refused(x -> {
            due("no custom", -1, x.text(1));
            for (int sort : new int[] {-1, 2, 3, LEAST, MOST}) {
                due("sort " + sort, -1, x.text(sort));
            }
        });
        unchanged(() -> Check.tape(told(), "9,8,7,6,5,4;fe9,ef1"), x -> due("a fault", -1, x.text(0)));
        unchanged(() -> Check.tape(told(), "y:0;y:n>0"), x -> due("a fault", -1, x.text(1)));
        unchanged(TabooIsles::new, x -> due("nothing", -1, x.text(0) + x.text(1) + 1));
    }

    static void promise09AskingChangesNothing() {
        Asked.twice(CHECK, told());
        Asked.twice(CHECK, full());
        Asked.twice(CHECK, Check.isles(SIX));
        Asked.twice(CHECK, new TabooIsles());
    }
}

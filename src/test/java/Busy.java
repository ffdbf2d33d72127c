import java.util.ArrayList;
import java.util.List;
import java.util.function.ToIntFunction;

/**
 * An object in which much has happened, always made by the same calls. Two of them, one of which
 * had one call more, show whether that call has changed anything.
 */
final class Busy {
    /** What stands where in a busy object. */
    static final int SHELF_OF_THREE = 0;
    static final int FULL_SHELF = 1;
    static final int SHELF_NOT_THERE = 3;
    static final int PLAN_OF_NINE = 0;
    static final int FULL_PLAN = 2;
    static final int OPEN_PLAN = 3;
    static final int PLAN_WITHOUT_ACTS = 5;

    private static final List<Integer> UNTOUCHED = everything(make());

    private Busy() {
    }

    static HeldShelves make() {
        HeldShelves x = new HeldShelves();
        x.shelf(0, 10);
        x.shelf(1, 1000);
        x.shelf(3, -1);
        x.shelf(7, 5);
        Due.plan(x, 0, "TRY 0, HOLD 0, SHARE 0 3, FAIL 8, END, END, HOLD 1, CALL 1, END");
        Due.plan(x, 1, "HOLD 7, PUT 7 1, END, FAIL 9");
        Due.plan(x, 2, "HOLD 7, PUT 7 1, END" + ", PASS".repeat(37));
        Due.plan(x, 3, "HOLD 0, PASS");
        Due.plan(x, 4, "END, TRY 0");
        x.run(0, 64);
        return x;
    }

    /** Makes a call on a busy object: its answer is due, and nothing is changed by it. */
    static void unchanged(String name, ToIntFunction<HeldShelves> call, int want) {
        HeldShelves x = make();
        Due.is(name, call.applyAsInt(x), want);
        Due.isTrue("nothing is changed by " + name, everything(x).equals(UNTOUCHED));
    }

    /** All that can be seen of an object: first by calls that only look, then by those that change it. */
    static List<Integer> everything(HeldShelves x) {
        List<Integer> seen = new ArrayList<>();
        seeRun(x, seen);
        seeShelves(x, seen);
        for (int plan = 0; plan < 6; plan++) {
            seen.add(x.closed(plan));
        }
        seen.add(x.rest());
        for (int plan = 0; plan < 6; plan++) {
            seen.add(x.run(plan, 64));
            seeRun(x, seen);
        }
        seeShelves(x, seen);
        seen.add(x.rest());
        for (int plan = 0; plan < 6; plan++) {
            seen.add(x.act(plan, 9, 0, 0, 0));
            seen.add(x.clear(plan));
        }
        return seen;
    }

    private static void seeRun(HeldShelves x, List<Integer> seen) {
        for (int what = 0; what < 8; what++) {
            seen.add(x.told(what));
        }
        for (int failure = 1; failure < 10; failure++) {
            seen.add(x.caught(failure));
        }
    }

    private static void seeShelves(HeldShelves x, List<Integer> seen) {
        for (int shelf = 0; shelf < 8; shelf++) {
            seen.add(x.about(shelf, 0));
            seen.add(x.about(shelf, 1));
        }
        for (int bound : new int[] {-1, 0, 3, 10, 1000, 1001}) {
            seen.add(x.first(bound));
            seen.add(x.row(bound));
        }
        seen.add(x.goods());
    }
}

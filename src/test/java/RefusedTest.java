/**
 * The codes of all promises: each call that is refused, and that nothing is changed by it; and the
 * calls that only look. A remark quotes the sentence of the document that its test is of.
 */
public final class RefusedTest {
    private static final int FAR = Due.FAR;
    private static final int LOW = Due.LOW;

    public static void main(String[] args) {
        actIsOutside();
        actIsFull();
        clearAndClosedAreOutside();
        shelfIsOutside();
        runIsOutside();
        runIsState();
        toldIsOutside();
        caughtIsOutside();
        aboutIsOutside();
        aboutIsState();
        outsideComesFirst();
        noneIsNoSuchOne();
        lookingChangesNothing();
        restAloneIsTaken();
        Due.end();
    }

    // "Codes, of several the first one that a call names: OUTSIDE -1 (a number is not as told, no
    // such PLAN, SHELF), FULL -2, STATE -3; then nothing changes."
    // "OUTSIDE: plan, kind 0 to 9, a number of a, b, c that it names is not 0 to 9 (of FAIL not 7 to
    // 9); FULL."
    private static void actIsOutside() {
        for (int wrong : new int[] {-1, 6, FAR, LOW}) {
            Busy.unchanged("act of plan " + wrong, x -> x.act(wrong, 7, 8, 0, 0), HeldShelves.OUTSIDE);
        }
        for (int wrong : new int[] {-1, 10, FAR, LOW}) {
            Busy.unchanged("act of kind " + wrong, x -> x.act(0, wrong, 8, 0, 0), HeldShelves.OUTSIDE);
            Busy.unchanged("MOVE of a " + wrong, x -> x.act(0, 6, wrong, 0, 0), HeldShelves.OUTSIDE);
            Busy.unchanged("MOVE of b " + wrong, x -> x.act(0, 6, 0, wrong, 0), HeldShelves.OUTSIDE);
            Busy.unchanged("MOVE of c " + wrong, x -> x.act(0, 6, 0, 0, wrong), HeldShelves.OUTSIDE);
        }
        for (int wrong : new int[] {-1, 0, 6, 10, FAR, LOW}) {
            Busy.unchanged("FAIL " + wrong, x -> x.act(0, 7, wrong, 0, 0), HeldShelves.OUTSIDE);
        }
        Busy.unchanged("act of nothing right", x -> x.act(LOW, FAR, LOW, FAR, LOW), HeldShelves.OUTSIDE);
    }

    // "PLANS 0 to 5 are rows of ACTS, numbered from 0 on, 40 at most."
    private static void actIsFull() {
        for (int kind = 0; kind < 10; kind++) {
            int some = kind;
            Busy.unchanged("act 40 of kind " + kind, x -> x.act(Busy.FULL_PLAN, some, 8, 8, 8), HeldShelves.FULL);
        }
    }

    // "A PLAN has no ACTS: how many it had. OUTSIDE."
    // "Whether a PLAN is CLOSED: 1, 0. OUTSIDE."
    private static void clearAndClosedAreOutside() {
        for (int wrong : new int[] {-1, 6, FAR, LOW}) {
            Busy.unchanged("clear(" + wrong + ")", x -> x.clear(wrong), HeldShelves.OUTSIDE);
            Busy.unchanged("closed(" + wrong + ")", x -> x.closed(wrong), HeldShelves.OUTSIDE);
        }
    }

    // "A SHELF is there with so many GOODS (0 to 1000; LEFT is 0), or, by -1, not: what it had; NONE:
    // it was not there. OUTSIDE."
    private static void shelfIsOutside() {
        for (int wrong : new int[] {-1, 8, 9, FAR, LOW}) {
            for (int goods : new int[] {-1, 0, 1000}) {
                String name = "shelf(" + wrong + ", " + goods + ")";
                Busy.unchanged(name, x -> x.shelf(wrong, goods), HeldShelves.OUTSIDE);
            }
        }
        for (int wrong : new int[] {-2, 1001, FAR, LOW}) {
            for (int shelf : new int[] {0, 1, 3, 7}) {
                String name = "shelf(" + shelf + ", " + wrong + ")";
                Busy.unchanged(name, x -> x.shelf(shelf, wrong), HeldShelves.OUTSIDE);
            }
        }
    }

    // "A PLAN is done, with so many STEPS (0 to 64): 0 to its end, 1 it failed, 2 it was STOPPED.
    // OUTSIDE; STATE: it is not CLOSED."
    private static void runIsOutside() {
        for (int wrong : new int[] {-1, 6, FAR, LOW}) {
            for (int steps : new int[] {0, 64}) {
                String name = "run(" + wrong + ", " + steps + ")";
                Busy.unchanged(name, x -> x.run(wrong, steps), HeldShelves.OUTSIDE);
            }
        }
        for (int wrong : new int[] {-1, 65, FAR, LOW}) {
            for (int plan : new int[] {Busy.PLAN_OF_NINE, Busy.PLAN_WITHOUT_ACTS}) {
                String name = "run(" + plan + ", " + wrong + ")";
                Busy.unchanged(name, x -> x.run(plan, wrong), HeldShelves.OUTSIDE);
            }
        }
    }

    // "STATE: it is not CLOSED."
    private static void runIsState() {
        for (int steps : new int[] {0, 1, 64}) {
            Busy.unchanged("run without an END", x -> x.run(Busy.OPEN_PLAN, steps), HeldShelves.STATE);
            Busy.unchanged("run of an END first", x -> x.run(4, steps), HeldShelves.STATE);
        }
    }

    // "All 0 (1, 2: NONE) before one. OUTSIDE."
    private static void toldIsOutside() {
        for (int wrong : new int[] {-1, 8, FAR, LOW}) {
            Busy.unchanged("told(" + wrong + ")", x -> x.told(wrong), HeldShelves.OUTSIDE);
        }
    }

    // "How often a FAILURE (1 to 9) was CAUGHT in the latest run. OUTSIDE."
    private static void caughtIsOutside() {
        for (int wrong : new int[] {-1, 0, 10, FAR, LOW}) {
            Busy.unchanged("caught(" + wrong + ")", x -> x.caught(wrong), HeldShelves.OUTSIDE);
        }
    }

    // "Of a SHELF: what = 0 GOODS, 1 LEFT. OUTSIDE; STATE: it is not there."
    private static void aboutIsOutside() {
        for (int wrong : new int[] {-1, 8, 9, FAR, LOW}) {
            Busy.unchanged("about(" + wrong + ", 0)", x -> x.about(wrong, 0), HeldShelves.OUTSIDE);
            Busy.unchanged("about(" + wrong + ", 1)", x -> x.about(wrong, 1), HeldShelves.OUTSIDE);
        }
        for (int wrong : new int[] {-1, 2, FAR, LOW}) {
            Busy.unchanged("about(0, " + wrong + ")", x -> x.about(0, wrong), HeldShelves.OUTSIDE);
            Busy.unchanged("about(7, " + wrong + ")", x -> x.about(7, wrong), HeldShelves.OUTSIDE);
        }
    }

    // "STATE: it is not there."
    private static void aboutIsState() {
        for (int shelf : new int[] {Busy.SHELF_NOT_THERE, 4, 5, 6}) {
            Busy.unchanged("GOODS of none", x -> x.about(shelf, 0), HeldShelves.STATE);
            Busy.unchanged("LEFT of none", x -> x.about(shelf, 1), HeldShelves.STATE);
        }
    }

    // "Codes, of several the first one that a call names: OUTSIDE -1 (a number is not as told, no
    // such PLAN, SHELF), FULL -2, STATE -3; then nothing changes."
    private static void outsideComesFirst() {
        Busy.unchanged("act, full, of kind 10", x -> x.act(Busy.FULL_PLAN, 10, 0, 0, 0), HeldShelves.OUTSIDE);
        Busy.unchanged("act, full, of a 10", x -> x.act(Busy.FULL_PLAN, 0, 10, 0, 0), HeldShelves.OUTSIDE);
        Busy.unchanged("act, full, of b -1", x -> x.act(Busy.FULL_PLAN, 3, 0, -1, 0), HeldShelves.OUTSIDE);
        Busy.unchanged("act, full, of c 10", x -> x.act(Busy.FULL_PLAN, 6, 0, 0, 10), HeldShelves.OUTSIDE);
        Busy.unchanged("act, full, FAIL 6", x -> x.act(Busy.FULL_PLAN, 7, 6, 0, 0), HeldShelves.OUTSIDE);
        Busy.unchanged("run, not closed, 65", x -> x.run(Busy.OPEN_PLAN, 65), HeldShelves.OUTSIDE);
        Busy.unchanged("run, not closed, -1", x -> x.run(Busy.OPEN_PLAN, -1), HeldShelves.OUTSIDE);
        Busy.unchanged("about, not there, 2", x -> x.about(Busy.SHELF_NOT_THERE, 2), HeldShelves.OUTSIDE);
        Busy.unchanged("about, not there, -1", x -> x.about(Busy.SHELF_NOT_THERE, -1), HeldShelves.OUTSIDE);
    }

    // "NONE -4 is no such one."
    private static void noneIsNoSuchOne() {
        Busy.unchanged("first(1001)", x -> x.first(1001), HeldShelves.NONE);
        Busy.unchanged("a shelf that stays away", x -> x.shelf(Busy.SHELF_NOT_THERE, -1), HeldShelves.NONE);
        HeldShelves x = new HeldShelves();
        Due.is("a shelf that was not there", x.shelf(4, 0), HeldShelves.NONE);
        Due.is("no plan where it failed", x.told(1), HeldShelves.NONE);
        Due.is("no act where it failed", x.told(2), HeldShelves.NONE);
    }

    // "Nothing is promised beyond the answers and state changes described above, and nothing about an
    // object after its 512th call."
    private static void lookingChangesNothing() {
        Busy.unchanged("closed", x -> x.closed(Busy.PLAN_OF_NINE), 1);
        Busy.unchanged("closed of an open one", x -> x.closed(Busy.OPEN_PLAN), 0);
        Busy.unchanged("told(0)", x -> x.told(0), 9);
        Busy.unchanged("told(1)", x -> x.told(1), 1);
        Busy.unchanged("told(2)", x -> x.told(2), 3);
        Busy.unchanged("caught(8)", x -> x.caught(8), 1);
        Busy.unchanged("caught(9)", x -> x.caught(9), 0);
        Busy.unchanged("about(0, 0)", x -> x.about(Busy.SHELF_OF_THREE, 0), 3);
        Busy.unchanged("about(0, 1)", x -> x.about(Busy.SHELF_OF_THREE, 1), 1);
        Busy.unchanged("first(1000)", x -> x.first(1000), Busy.FULL_SHELF);
        Busy.unchanged("first(LOW)", x -> x.first(LOW), 0);
        Busy.unchanged("row(3)", x -> x.row(3), 1);
        Busy.unchanged("row(FAR)", x -> x.row(FAR), 3);
        Busy.unchanged("goods", HeldShelves::goods, 1009);
        Busy.unchanged("clear of no acts", x -> x.clear(Busy.PLAN_WITHOUT_ACTS), 0);
    }

    // "THE REST, which is 0 then."
    private static void restAloneIsTaken() {
        HeldShelves x = Busy.make();
        HeldShelves y = Busy.make();
        Due.is("rest", x.rest(), 7);
        Due.is("rest of its twin", y.rest(), 7);
        Due.is("rest again", x.rest(), 0);
        Due.isTrue("nothing else is changed by rest", Busy.everything(x).equals(Busy.everything(y)));
    }
}

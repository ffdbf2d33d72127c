/**
 * Promises 2 act, 3 clear, 4 closed, and what 'Terms' says of plans and acts. A remark quotes the
 * sentence of the document that its test is of.
 */
public final class PlansTest {
    private static final int FAR = Due.FAR;
    private static final int LOW = Due.LOW;

    /** How many of a, b, c each kind names. */
    private static final int[] NAMED = {1, 1, 0, 2, 2, 2, 3, 1, 1, 0};

    public static void main(String[] args) {
        plansZeroToFive();
        fortyActs();
        numbersZeroToNine();
        eachNumberIsKept();
        unnamedIsNotLookedAt();
        actAnswersItsNumber();
        kindsZeroToNine();
        failTakesSevenToNine();
        fullIsThatPlanAlone();
        clearAnswersHowMany();
        clearedIsThatPlanAlone();
        closedByBlocks();
        closedByTheLastAct();
        closedOfFortyActs();
        closedAnswersOneOrNought();
        Due.end();
    }

    // "PLANS 0 to 5 are rows of ACTS, numbered from 0 on, 40 at most."
    private static void plansZeroToFive() {
        HeldShelves x = new HeldShelves();
        for (int plan = 0; plan <= 5; plan++) {
            Due.is("act of plan " + plan, x.act(plan, 9, 0, 0, 0), 0);
            Due.is("closed of plan " + plan, x.closed(plan), 1);
            Due.is("run of plan " + plan, x.run(plan, 1), 0);
            Due.is("clear of plan " + plan, x.clear(plan), 1);
        }
        for (int wrong : new int[] {-1, 6, 7, FAR, LOW}) {
            Due.is("act of plan " + wrong, x.act(wrong, 9, 0, 0, 0), HeldShelves.OUTSIDE);
            Due.is("closed of plan " + wrong, x.closed(wrong), HeldShelves.OUTSIDE);
            Due.is("run of plan " + wrong, x.run(wrong, 1), HeldShelves.OUTSIDE);
            Due.is("clear of plan " + wrong, x.clear(wrong), HeldShelves.OUTSIDE);
        }
    }

    // "PLANS 0 to 5 are rows of ACTS, numbered from 0 on, 40 at most."
    private static void fortyActs() {
        HeldShelves x = new HeldShelves();
        for (int plan = 0; plan <= 5; plan++) {
            for (int act = 0; act < 40; act++) {
                Due.is("act " + act + " of plan " + plan, x.act(plan, 9, 0, 0, 0), act);
            }
            Due.is("act 40 of plan " + plan, x.act(plan, 9, 0, 0, 0), HeldShelves.FULL);
        }
        for (int plan = 0; plan <= 5; plan++) {
            Due.is("run of 40", x.run(plan, 64), 0);
            Due.is("steps of 40", x.told(3), 40);
            Due.is("clear of 40", x.clear(plan), 40);
            Due.is("act behind clear", x.act(plan, 9, 0, 0, 0), 0);
        }
    }

    // "An ACT has a KIND and numbers a, b, c (0 to 9 each; a of HOLD, PUT, TAKE, SHARE, MOVE, b of
    // MOVE are SHELVES; what a KIND does not name is not looked at):"
    private static void numbersZeroToNine() {
        for (int kind = 0; kind < 10; kind++) {
            for (int place = 0; place < 3; place++) {
                for (int number : new int[] {-1, 0, 8, 9, 10, 11, FAR, LOW}) {
                    int[] numbers = {8, 8, 8};
                    numbers[place] = number;
                    boolean named = place < NAMED[kind];
                    boolean fits = number >= (kind == 7 ? 7 : 0) && number <= 9;
                    int want = named && !fits ? HeldShelves.OUTSIDE : 0;
                    int got = new HeldShelves().act(0, kind, numbers[0], numbers[1], numbers[2]);
                    Due.is("kind " + kind + ", place " + place + ", " + number, got, want);
                }
            }
        }
    }

    // "An ACT has a KIND and numbers a, b, c (0 to 9 each; a of HOLD, PUT, TAKE, SHARE, MOVE, b of
    // MOVE are SHELVES; what a KIND does not name is not looked at):"
    private static void eachNumberIsKept() {
        for (int c = 0; c <= 9; c++) {
            HeldShelves x = Due.with("MOVE 0 7 " + c + ", HOLD 7, PUT 7 " + c + ", END");
            x.shelf(0, 9);
            x.shelf(7, 0);
            Due.run("move and put " + c, x, 4, 0, 0, -4, -4, 4);
            Due.shelf("from", x, 0, 9 - c, 0);
            Due.shelf("to", x, 7, 2 * c, 0);
        }
        Due.run("the greatest numbers", Due.with("PASS, MOVE 9 9 9"), 64, 1, 1, 0, 1);
        Due.run("the least numbers", Due.with("MOVE 0 0 0, HOLD 0, PUT 0 0, TAKE 0 0, END"), 64, 0, 0);
    }

    // "what a KIND does not name is not looked at"
    private static void unnamedIsNotLookedAt() {
        HeldShelves x = new HeldShelves();
        Due.is("HOLD", x.act(0, 0, 1, FAR, LOW), 0);
        Due.is("PASS", x.act(0, 9, FAR, FAR, FAR), 1);
        Due.is("PUT", x.act(0, 3, 1, 5, -7), 2);
        Due.is("TAKE", x.act(0, 4, 1, 1, 10), 3);
        Due.is("SHARE", x.act(0, 5, 1, 2, LOW), 4);
        Due.is("END", x.act(0, 2, LOW, LOW, LOW), 5);
        Due.is("TRY", x.act(0, 1, 8, -99, 12345), 6);
        Due.is("FAIL", x.act(0, 7, 8, 1000, -1000), 7);
        Due.is("END", x.act(0, 2, -1, 4711, -1), 8);
        Due.is("CALL", x.act(0, 8, 1, -1, 10), 9);
        Due.run("unnamed", x, 64, 0, 0, -4, -4, 9, 1, 1, 1, 1);
        Due.shelf("unnamed", x, 1, 2, 0);
        Due.is("rest", x.rest(), 2);
    }

    // "An ACT behind the others of a PLAN: its number."
    private static void actAnswersItsNumber() {
        HeldShelves x = new HeldShelves();
        Due.is("the first", x.act(3, 0, 0, 0, 0), 0);
        Due.is("the second", x.act(3, 3, 0, 7, 0), 1);
        Due.is("the first of another", x.act(2, 8, 3, 0, 0), 0);
        Due.is("the third", x.act(3, 2, 0, 0, 0), 2);
        Due.is("they are done in their order", x.run(2, 64), 0);
        Due.told("order", x, 0, -4, -4, 4, 1, 1, 0, 1);
        Due.shelf("order", x, 0, 7, 0);
        Due.is("behind a run", x.act(3, 7, 9, 0, 0), 3);
        Due.is("the new one is done", x.run(3, 64), 1);
        Due.told("the new one", x, 9, 3, 3, 4);
    }

    // "OUTSIDE: plan, kind 0 to 9, a number of a, b, c that it names is not 0 to 9 (of FAIL not 7 to
    // 9); FULL."
    private static void kindsZeroToNine() {
        HeldShelves x = new HeldShelves();
        for (int kind = 0; kind <= 9; kind++) {
            Due.is("act of kind " + kind, x.act(0, kind, 9, 9, 9), kind);
        }
        for (int wrong : new int[] {-1, 10, 11, FAR, LOW}) {
            Due.is("act of kind " + wrong, x.act(0, wrong, 0, 0, 0), HeldShelves.OUTSIDE);
        }
        Due.is("none of these was added", x.clear(0), 10);
    }

    // "(of FAIL not 7 to 9)"
    private static void failTakesSevenToNine() {
        HeldShelves x = new HeldShelves();
        for (int a = -1; a <= 10; a++) {
            boolean fits = a >= 7 && a <= 9;
            Due.is("FAIL " + a, x.act(0, 7, a, 0, 0), fits ? a - 7 : HeldShelves.OUTSIDE);
        }
    }

    // "FULL."
    private static void fullIsThatPlanAlone() {
        HeldShelves x = Due.with("PASS" + ", PASS".repeat(38));
        Due.is("the last place", x.act(0, 7, 8, 0, 0), 39);
        Due.is("no place", x.act(0, 9, 0, 0, 0), HeldShelves.FULL);
        Due.is("OUTSIDE is named ahead of FULL", x.act(0, 3, 0, 10, 0), HeldShelves.OUTSIDE);
        Due.is("another plan has room", x.act(1, 9, 0, 0, 0), 0);
        Due.run("the last act is done", x, 64, 1, 8, 0, 39, 40);
    }

    // "A PLAN has no ACTS: how many it had. OUTSIDE."
    private static void clearAnswersHowMany() {
        HeldShelves x = Due.with("HOLD 0, PASS, PASS");
        Due.is("closed(0)", x.closed(0), 0);
        Due.is("clear(0)", x.clear(0), 3);
        Due.is("clear(0) of none", x.clear(0), 0);
        Due.is("closed(0) of none", x.closed(0), 1);
        Due.is("run(0, 0) of none", x.run(0, 0), 0);
        Due.is("the next one is the first", x.act(0, 7, 9, 0, 0), 0);
        Due.run("what was cleared does not come back", x, 64, 1, 9, 0, 0, 1, 0);
        Due.is("clear(-1)", x.clear(-1), HeldShelves.OUTSIDE);
        Due.is("clear(6)", x.clear(6), HeldShelves.OUTSIDE);
    }

    // "A PLAN has no ACTS: how many it had. OUTSIDE."
    private static void clearedIsThatPlanAlone() {
        HeldShelves x = new HeldShelves();
        for (int plan = 0; plan <= 5; plan++) {
            Due.plan(x, plan, "PASS" + ", PASS".repeat(plan));
        }
        Due.is("clear(2)", x.clear(2), 3);
        for (int plan = 0; plan <= 5; plan++) {
            Due.is("clear(" + plan + ")", x.clear(plan), plan == 2 ? 0 : plan + 1);
        }
    }

    // "A PLAN is CLOSED, if each HOLD, TRY has its END, each END its HOLD or TRY."
    private static void closedByBlocks() {
        closed("PASS", 1);
        closed("HOLD 0, END", 1);
        closed("TRY 0, END, HOLD 9, END", 1);
        closed("HOLD 0, TRY 1, END, END", 1);
        closed("HOLD 0", 0);
        closed("TRY 0", 0);
        closed("END", 0);
        closed("END, HOLD 0", 0);
        closed("END, TRY 0", 0);
        closed("HOLD 0, END, END", 0);
        closed("HOLD 0, END, END, TRY 0", 0);
        closed("HOLD 0, END, END, HOLD 0, END", 0);
        closed("HOLD 0, TRY 0, END", 0);
        closed("HOLD 0, HOLD 0, END", 0);
        closed("CALL 9, FAIL 7, MOVE 9 9 9, PUT 9 9, TAKE 9 9, SHARE 9 0", 1);
    }

    // "A PLAN is CLOSED, if each HOLD, TRY has its END, each END its HOLD or TRY."
    private static void closedByTheLastAct() {
        HeldShelves x = new HeldShelves();
        int[] kinds = {9, 0, 1, 2, 9, 2, 9, 2, 0, 2};
        int[] wants = {1, 0, 0, 0, 0, 1, 1, 0, 0, 0};
        for (int act = 0; act < kinds.length; act++) {
            Due.is("act " + act, x.act(5, kinds[act], 0, 0, 0), act);
            Due.is("closed behind act " + act, x.closed(5), wants[act]);
            Due.is("run behind act " + act, x.run(5, 64), wants[act] == 1 ? 0 : HeldShelves.STATE);
        }
    }

    // "A PLAN is CLOSED, if each HOLD, TRY has its END, each END its HOLD or TRY."
    private static void closedOfFortyActs() {
        closed("HOLD 0, TRY 0, ".repeat(10) + "END" + ", END".repeat(19), 1);
        closed("HOLD 0, END, TRY 0, END" + ", HOLD 0, END, TRY 0, END".repeat(9), 1);
        closed("PASS, " + "TRY 0, ".repeat(20) + "END" + ", END".repeat(18), 0);
        closed("TRY 0, ".repeat(19) + "END" + ", END".repeat(19) + ", PASS", 0);
        closed("HOLD 0" + ", HOLD 0".repeat(39), 0);
        closed("END" + ", END".repeat(39), 0);
    }

    // "Whether a PLAN is CLOSED: 1, 0. OUTSIDE."
    private static void closedAnswersOneOrNought() {
        HeldShelves x = Due.with("HOLD 0");
        Due.is("closed(0)", x.closed(0), 0);
        Due.is("closed(1), without acts", x.closed(1), 1);
        Due.is("closed(5), without acts", x.closed(5), 1);
        Due.is("closed(-1)", x.closed(-1), HeldShelves.OUTSIDE);
        Due.is("closed(6)", x.closed(6), HeldShelves.OUTSIDE);
        Due.is("closed(FAR)", x.closed(FAR), HeldShelves.OUTSIDE);
        Due.is("closed(LOW)", x.closed(LOW), HeldShelves.OUTSIDE);
    }

    private static void closed(String acts, int want) {
        Due.is("closed of " + acts, Due.with(acts).closed(0), want);
    }
}

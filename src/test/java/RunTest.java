/** Promises 6 run, 7 told, 8 caught, with the acts, the failures and their order. */
public final class RunTest {
    private static final int FAR = Integer.MAX_VALUE;
    private static final int LOW = Integer.MIN_VALUE;

    public static void main(String[] args) {
        codes();
        refusedRunChangesNothing();
        toldAnew();
        stepsAndStop();
        stopPassesGuards();
        stopInCalledPlans();
        allStepsAreCalls();
        allStepsAreOpen();
        holds();
        heldAgain();
        holdFails();
        putTakeShare();
        orderOfFailures();
        move();
        failuresStay();
        guards();
        guardOverCalls();
        wrongCalls();
        deepest();
        Due.end();
    }

    private static void codes() {
        HeldShelves x = Due.with("HOLD 0");
        for (int wrong : new int[] {-1, 6, FAR, LOW}) {
            Due.is("run(" + wrong + ", 1)", x.run(wrong, 1), HeldShelves.OUTSIDE);
        }
        for (int wrong : new int[] {-1, 65, FAR, LOW}) {
            Due.is("run(1, " + wrong + ")", x.run(1, wrong), HeldShelves.OUTSIDE);
            Due.is("OUTSIDE ahead of STATE", x.run(0, wrong), HeldShelves.OUTSIDE);
        }
        Due.is("run of an open plan", x.run(0, 64), HeldShelves.STATE);
        Due.is("run of no acts, no steps", x.run(5, 0), 0);
        for (int wrong : new int[] {-1, 8, FAR, LOW}) {
            Due.is("told(" + wrong + ")", x.told(wrong), HeldShelves.OUTSIDE);
        }
        for (int wrong : new int[] {-1, 0, 10, FAR, LOW}) {
            Due.is("caught(" + wrong + ")", x.caught(wrong), HeldShelves.OUTSIDE);
        }
    }

    private static void refusedRunChangesNothing() {
        HeldShelves x = Due.with("TRY 8, FAIL 8, END, FAIL 9");
        Due.plan(x, 1, "END");
        Due.is("run", x.run(0, 64), 1);
        Due.is("refused", x.run(1, 64), HeldShelves.STATE);
        Due.is("refused", x.run(0, 65), HeldShelves.OUTSIDE);
        x.clear(0);
        Due.told("refused", x, 9, 0, 3, 3, 0, 0, 1, 0);
        Due.caught("refused", x, 0, 0, 0, 0, 0, 0, 0, 1, 0);
    }

    private static void toldAnew() {
        HeldShelves x = Due.with("TRY 0, HOLD 0, CALL 1, END, END, TRY 9, FAIL 9, END, FAIL 9");
        Due.plan(x, 1, "FAIL 8");
        Due.is("run", x.run(0, 64), 1);
        Due.told("failed", x, 9, 0, 8, 7, 1, 1, 2, 1);
        Due.caught("failed", x, 0, 0, 0, 0, 0, 0, 0, 1, 1);
        Due.is("run of no acts", x.run(2, 64), 0);
        Due.told("anew", x, 0, -4, -4, 0, 0, 0, 0, 0);
        Due.caught("anew", x, 0, 0, 0, 0, 0, 0, 0, 0, 0);
    }

    private static void stepsAndStop() {
        HeldShelves x = Due.with("HOLD 2, PUT 2 4, END, PASS");
        Due.is("no steps", x.run(0, 0), 2);
        Due.told("no steps", x, 0, 0, 0, 0, 0, 0, 0, 0);
        Due.shelf("no steps", x, 2, 0, 0);
        Due.is("one step", x.run(0, 1), 2);
        Due.told("one step", x, 0, 0, 1, 1, 1, 1, 0, 0);
        Due.shelf("one step", x, 2, 0, 1);
        Due.is("two steps, the END to come", x.run(0, 2), 2);
        Due.told("two steps", x, 0, 0, 2, 2, 1, 1, 0, 0);
        Due.shelf("two steps", x, 2, 4, 2);
        Due.is("three steps", x.run(0, 3), 2);
        Due.told("three steps", x, 0, 0, 3, 3, 1, 1, 0, 0);
        Due.shelf("three steps", x, 2, 8, 2);
        Due.is("just enough steps", x.run(0, 4), 0);
        Due.told("just enough", x, 0, -4, -4, 4, 1, 1, 0, 0);
        HeldShelves y = Due.with("TRY 8, FAIL 8, END, PASS");
        Due.is("caught by the last step, one to come", y.run(0, 2), 2);
        Due.told("caught, stopped", y, 0, 0, 3, 2, 0, 0, 1, 0);
        Due.is("the END of what is caught is no step", y.run(0, 3), 0);
        HeldShelves z = Due.with("FAIL 7");
        Due.is("failed by the last step", z.run(0, 1), 1);
        Due.told("failed by the last", z, 7, 0, 0, 1, 0, 0, 0, 0);
    }

    private static void stopPassesGuards() {
        HeldShelves x = Due.with("TRY 0, HOLD 1, TRY 0, HOLD 1, HOLD 3, PASS, END, END, END, END, END");
        Due.is("run", x.run(0, 5), 2);
        Due.told("stop", x, 0, 0, 5, 5, 3, 3, 0, 0);
        Due.caught("stop", x, 0, 0, 0, 0, 0, 0, 0, 0, 0);
        Due.shelf("stop", x, 1, 0, 2);
        Due.shelf("stop", x, 3, 0, 1);
        Due.plan(x, 1, "PUT 1 1");
        Due.is("held no more", x.run(1, 64), 1);
        Due.is("LOOSE", x.told(0), 7);
    }

    private static void stopInCalledPlans() {
        HeldShelves x = Due.with("HOLD 0, TRY 0, CALL 1, END, END, PASS");
        Due.plan(x, 1, "HOLD 1, CALL 2, END, PASS");
        Due.is("ahead of the called plan's first", x.run(0, 3), 2);
        Due.told("called", x, 0, 1, 0, 3, 1, 1, 0, 1);
        Due.is("behind a plan without acts", x.run(0, 5), 2);
        Due.told("behind", x, 0, 1, 2, 5, 2, 2, 0, 2);
        Due.shelf("behind", x, 0, 0, 2);
        Due.shelf("behind", x, 1, 0, 1);
        Due.is("back in the first", x.run(0, 7), 2);
        Due.told("back", x, 0, 0, 3, 7, 2, 2, 0, 2);
        Due.is("to the end", x.run(0, 10), 0);
        Due.told("to the end", x, 0, -4, -4, 10, 2, 2, 0, 2);
        HeldShelves y = Due.with("CALL 1");
        Due.is("a call of no acts is the last step", y.run(0, 1), 0);
        Due.told("call of no acts", y, 0, -4, -4, 1, 0, 0, 0, 1);
        HeldShelves z = Due.with("PASS, CALL 0");
        Due.is("itself", z.run(0, 7), 2);
        Due.told("itself", z, 0, 0, 1, 7, 0, 0, 0, 3);
    }

    /** As many calls as there are steps, each of a plan that ends at once or is ended by then. */
    private static void allStepsAreCalls() {
        HeldShelves x = new HeldShelves();
        Due.plan(x, 0, "CALL 1");
        Due.plan(x, 1, "CALL 2, ".repeat(39) + "CALL 2");
        Due.plan(x, 0, "CALL 2, ".repeat(22) + "CALL 2");
        Due.is("64 calls", x.run(0, 64), 0);
        Due.told("64 calls", x, 0, -4, -4, 64, 0, 0, 0, 64);
        Due.plan(x, 0, "PASS");
        Due.is("64 calls, one to come", x.run(0, 64), 2);
        Due.told("64 calls, one to come", x, 0, 0, 24, 64, 0, 0, 0, 64);
    }

    /** As many blocks and calls open at a time as there are steps. */
    private static void allStepsAreOpen() {
        HeldShelves x = new HeldShelves();
        for (int plan = 0; plan < 5; plan++) {
            Due.plan(x, plan, "HOLD 0, ".repeat(15) + "CALL " + (plan + 1) + ", END".repeat(15));
        }
        Due.is("all open", x.run(0, 64), 2);
        Due.told("all open", x, 0, 4, 0, 64, 60, 60, 0, 4);
        Due.shelf("all open", x, 0, 0, 60);
    }

    private static void holds() {
        HeldShelves x = Due.with("HOLD 0, HOLD 1, END, END, HOLD 2, HOLD 3, HOLD 0, END, END, END");
        Due.is("run", x.run(0, 64), 0);
        Due.told("holds", x, 0, -4, -4, 10, 5, 3, 0, 0);
        for (int shelf = 0; shelf < 4; shelf++) {
            Due.shelf("holds", x, shelf, 0, 0);
        }
        HeldShelves y = Due.with("TRY 0, HOLD 0, HOLD 1, FAIL 9, END, END, END, HOLD 2, END");
        Due.is("run", y.run(0, 64), 0);
        Due.told("left holds are open no more", y, 0, -4, -4, 6, 3, 2, 1, 0);
    }

    private static void heldAgain() {
        HeldShelves x = Due.with("HOLD 0, HOLD 0, PUT 0 1, END, PUT 0 1, END, PUT 0 1");
        Due.is("run", x.run(0, 64), 1);
        Due.told("again", x, 7, 0, 6, 7, 2, 2, 0, 0);
        Due.shelf("again", x, 0, 2, 0);
        HeldShelves y = Due.with("HOLD 0, TRY 8, HOLD 0, FAIL 8, END, END, PUT 0 3, END, PUT 0 3");
        Due.is("run", y.run(0, 64), 1);
        Due.told("still held", y, 7, 0, 8, 7, 2, 2, 1, 0);
        Due.shelf("still held", y, 0, 3, 1);
        HeldShelves z = Due.with("HOLD 0, CALL 1, END, CALL 1");
        Due.plan(z, 1, "PUT 0 2");
        Due.is("run", z.run(0, 64), 1);
        Due.told("held over calls", z, 7, 1, 0, 6, 1, 1, 0, 2);
        Due.shelf("held over calls", z, 0, 2, 0);
    }

    private static void holdFails() {
        HeldShelves x = Due.with("TRY 0, HOLD 8, END, END, TRY 1, HOLD 9, END, END, HOLD 4, END");
        Due.is("run", x.run(0, 64), 1);
        Due.told("no hold", x, 2, 0, 8, 5, 0, 0, 2, 0);
        Due.caught("no hold", x, 2, 0, 0, 0, 0, 0, 0, 0, 0);
        x.shelf(4, 1);
        Due.is("run", x.run(0, 64), 0);
        Due.told("hold", x, 0, -4, -4, 6, 1, 1, 2, 0);
    }

    private static void putTakeShare() {
        HeldShelves x = Due.with("HOLD 0, PUT 0 9, END");
        x.shelf(0, 991);
        Due.is("up to 1000", x.run(0, 64), 0);
        Due.is("over 1000", x.run(0, 64), 1);
        Due.told("over", x, 5, 0, 1, 2, 1, 1, 0, 0);
        Due.shelf("over", x, 0, 1000, 1);
        HeldShelves y = Due.with("HOLD 0, TAKE 0 9, END");
        y.shelf(0, 9);
        Due.is("down to 0", y.run(0, 64), 0);
        Due.shelf("down to 0", y, 0, 0, 0);
        y.shelf(0, 8);
        Due.is("short", y.run(0, 64), 1);
        Due.told("short", y, 4, 0, 1, 2, 1, 1, 0, 0);
        Due.shelf("short", y, 0, 8, 1);
        HeldShelves z = Due.with("HOLD 3, PUT 3 0, TAKE 3 0, SHARE 3 1, SHARE 3 4, SHARE 3 9, END");
        z.shelf(3, 30);
        Due.is("share", z.run(0, 64), 0);
        Due.shelf("share", z, 3, 0, 0);
        Due.is("rest", z.rest(), 30);
        z.shelf(3, 1000);
        z.run(0, 64);
        Due.shelf("share 1000", z, 3, 27, 0);
        Due.is("rest of 1000", z.rest(), 973);
    }

    /** Each act fails by more than one; the first in the document's order is told. */
    private static void orderOfFailures() {
        failsBy("PUT 8 9", 1);
        failsBy("TAKE 9 9", 1);
        failsBy("SHARE 8 0", 1);
        failsBy("PUT 5 9", 2);
        failsBy("TAKE 5 9", 2);
        failsBy("SHARE 5 0", 2);
        failsBy("PUT 1 9", 7);
        failsBy("TAKE 0 9", 7);
        failsBy("SHARE 0 0", 7);
        failsBy("PUT 0 0", 7);
        failsBy("HOLD 0, SHARE 0 0, END", 3);
        failsBy("HOLD 0, TAKE 0 1, END", 4);
        failsBy("HOLD 1, PUT 1 1, END", 5);
        failsBy("MOVE 8 5 9", 1);
        failsBy("MOVE 5 9 9", 1);
        failsBy("MOVE 8 8 0", 1);
        failsBy("MOVE 5 0 9", 2);
        failsBy("MOVE 0 5 9", 2);
        failsBy("MOVE 0 1 9", 4);
        failsBy("MOVE 0 0 1", 4);
        failsBy("MOVE 2 1 1", 5);
        failsBy("CALL 6", 6);
        failsBy("CALL 9", 6);
        failsBy("FAIL 7", 7);
        failsBy("FAIL 8", 8);
        failsBy("FAIL 9", 9);
    }

    /** Shelf 0 has none, 1 is full, 2 has 500, 5 is not there. */
    private static void failsBy(String acts, int failure) {
        HeldShelves x = Due.with(acts);
        x.shelf(1, 1000);
        x.shelf(2, 500);
        Due.is("run of " + acts, x.run(0, 64), 1);
        Due.is("failure of " + acts, x.told(0), failure);
        Due.is("nothing done by " + acts, x.goods(), 1500);
        Due.is("no rest by " + acts, x.rest(), 0);
        for (int guard = 0; guard < 10; guard++) {
            HeldShelves y = Due.with("TRY " + guard + ", " + acts + ", END");
            y.shelf(1, 1000);
            y.shelf(2, 500);
            boolean catches = guard == 0 || guard == failure;
            Due.is("TRY " + guard + " of " + acts, y.run(0, 64), catches ? 0 : 1);
            Due.is("caught by TRY " + guard, y.caught(failure), catches ? 1 : 0);
            Due.is("told of TRY " + guard, y.told(0), catches ? 0 : failure);
        }
    }

    private static void move() {
        HeldShelves x = Due.with("MOVE 1 2 9, MOVE 2 1 4, MOVE 1 1 4, HOLD 1, MOVE 1 3 3, END");
        x.shelf(1, 9);
        Due.is("run", x.run(0, 64), 0);
        Due.told("move", x, 0, -4, -4, 6, 1, 1, 0, 0);
        Due.shelf("move", x, 1, 1, 0);
        Due.shelf("move", x, 2, 5, 0);
        Due.shelf("move", x, 3, 3, 0);
        HeldShelves y = Due.with("MOVE 0 0 9, MOVE 1 0 0, MOVE 0 1 9, MOVE 1 0 9, TRY 5, MOVE 1 0 1, END");
        y.shelf(0, 1000);
        y.shelf(1, 1);
        Due.is("full", y.run(0, 64), 0);
        Due.told("full", y, 0, -4, -4, 6, 0, 0, 1, 0);
        Due.shelf("full", y, 0, 1000, 0);
        Due.shelf("full", y, 1, 1, 0);
        HeldShelves z = Due.with("MOVE 0 1 0, PUT 0 1");
        Due.is("its holds end with it", z.run(0, 64), 1);
        Due.is("LOOSE behind MOVE", z.told(0), 7);
    }

    private static void failuresStay() {
        HeldShelves x = Due.with("TRY 0, HOLD 0, PUT 0 5, MOVE 0 1 2, SHARE 0 2, FAIL 9, END, END");
        Due.is("run", x.run(0, 64), 0);
        Due.told("stays", x, 0, -4, -4, 6, 1, 1, 1, 0);
        Due.shelf("stays", x, 0, 1, 1);
        Due.shelf("stays", x, 1, 2, 0);
        Due.is("rest stays", x.rest(), 2);
    }

    private static void guards() {
        HeldShelves x = Due.with("TRY 9, HOLD 0, TRY 8, HOLD 1, FAIL 9, END, END, PASS, END, PASS, END, PASS");
        Due.is("the outer one catches", x.run(0, 64), 0);
        Due.told("outer", x, 0, -4, -4, 6, 2, 2, 1, 0);
        Due.caught("outer", x, 0, 0, 0, 0, 0, 0, 0, 0, 1);
        Due.shelf("outer", x, 0, 0, 1);
        Due.shelf("outer", x, 1, 0, 1);
        HeldShelves y = Due.with("TRY 0, TRY 9, FAIL 9, END, FAIL 8, END, TRY 9, END, FAIL 9");
        Due.is("a guard that is closed catches no more", y.run(0, 64), 1);
        Due.told("closed guard", y, 9, 0, 8, 7, 0, 0, 2, 0);
        Due.caught("closed guard", y, 0, 0, 0, 0, 0, 0, 0, 1, 1);
        HeldShelves z = Due.with("HOLD 0, TRY 7, FAIL 7, END, PUT 0 1, END");
        Due.is("a hold around the guard stays", z.run(0, 64), 0);
        Due.told("around", z, 0, -4, -4, 5, 1, 1, 1, 0);
        Due.shelf("around", z, 0, 1, 0);
    }

    private static void guardOverCalls() {
        HeldShelves x = Due.with("TRY 8, HOLD 0, CALL 1, PASS, END, END, PASS, CALL 1");
        Due.plan(x, 1, "TRY 9, HOLD 1, CALL 2, END, END, PASS");
        Due.plan(x, 2, "HOLD 2, FAIL 8, END");
        Due.is("run", x.run(0, 64), 1);
        Due.told("over calls", x, 8, 2, 1, 15, 5, 3, 1, 4);
        Due.caught("over calls", x, 0, 0, 0, 0, 0, 0, 0, 1, 0);
        Due.shelf("over calls", x, 0, 0, 1);
        Due.shelf("over calls", x, 1, 0, 2);
        Due.shelf("over calls", x, 2, 0, 2);
    }

    private static void wrongCalls() {
        HeldShelves x = Due.with("TRY 6, CALL 6, END, TRY 6, CALL 1, END, CALL 2, CALL 1");
        Due.plan(x, 1, "HOLD 0");
        Due.is("run", x.run(0, 64), 1);
        Due.told("wrong", x, 6, 0, 7, 6, 0, 0, 2, 1);
        Due.caught("wrong", x, 0, 0, 0, 0, 0, 2, 0, 0, 0);
    }

    private static void deepest() {
        HeldShelves x = Due.with("CALL 1");
        Due.plan(x, 1, "CALL 2");
        Due.plan(x, 2, "CALL 3");
        Due.plan(x, 3, "CALL 4");
        Due.is("five within each other", x.run(0, 64), 0);
        Due.told("five", x, 0, -4, -4, 4, 0, 0, 0, 4);
        Due.plan(x, 4, "PASS, CALL 5");
        Due.is("six within each other", x.run(0, 64), 1);
        Due.told("six", x, 6, 4, 1, 6, 0, 0, 0, 4);
        Due.is("one less", x.run(1, 64), 0);
        HeldShelves y = Due.with("CALL 1, CALL 1, CALL 1, CALL 1, CALL 1, CALL 1, CALL 1");
        Due.plan(y, 1, "TRY 0, CALL 2, END");
        Due.plan(y, 2, "FAIL 8");
        Due.is("plans that have ended or failed are being done no more", y.run(0, 64), 0);
        Due.told("ended", y, 0, -4, -4, 28, 0, 0, 7, 14);
        HeldShelves z = Due.with("TRY 8, HOLD 0, HOLD 1, HOLD 2, HOLD 3, TRY 9, CALL 0, END, END, END, END, END, END");
        Due.is("all open", z.run(0, 64), 1);
        Due.told("all open", z, 6, 0, 6, 35, 20, 20, 0, 4);
        for (int shelf = 0; shelf < 4; shelf++) {
            Due.shelf("all open", z, shelf, 0, 5);
        }
    }
}

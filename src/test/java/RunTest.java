/**
 * Promises 6 run, 7 told, 8 caught, and what 'Terms' says of steps, the stop, holds and guards. A
 * remark quotes the sentence of the document that its test is of.
 */
public final class RunTest {
    private static final int FAR = Due.FAR;
    private static final int LOW = Due.LOW;

    public static void main(String[] args) {
        fromTheFirstToTheLast();
        aStepAheadOfWhatItDoes();
        stoppedWithAnotherToCome();
        stoppedBehindTheLastIsNot();
        stoppedInCalledPlans();
        stoppedBehindWhatIsCaught();
        stoppedTwoPlansDeep();
        holdFails();
        heldWhileItsBlockIsDone();
        heldOnceMore();
        heldInCalledPlans();
        leftByFailureOrStop();
        notLeftByItsEnd();
        leftGoesOnFromRunToRun();
        heldNoMoreBehindTheRun();
        holdsAreCounted();
        allStepsAreOpen();
        guardsByKind();
        guardsOverCalls();
        guardedEndIsNoStep();
        guardsOfTheirBlockAlone();
        othersGoOutwards();
        theStopGoesOutwards();
        runAnswers();
        runStepsZeroToSixtyFour();
        runOfWhatIsNotClosed();
        runOfNoActs();
        toldFailure();
        toldWhere();
        toldSteps();
        toldCaught();
        toldCalled();
        toldOfTheLatest();
        toldBeforeARun();
        toldZeroToSeven();
        caughtOneToNine();
        caughtOften();
        caughtOfTheLatest();
        allCallsOfAnObject();
        Due.end();
    }

    // "ACTS of a PLAN are done from the first to the last;"
    private static void fromTheFirstToTheLast() {
        HeldShelves x = Due.with("HOLD 0, SHARE 0 2, PUT 0 1, SHARE 0 3, TAKE 0 1, END");
        x.shelf(0, 10);
        Due.run("order", x, 64, 0, 0, -4, -4, 6);
        Due.shelf("order", x, 0, 1, 0);
        Due.is("rest of the order", x.rest(), 9);
    }

    // "each that is come to (END, too) is a STEP ahead of what it does;"
    private static void aStepAheadOfWhatItDoes() {
        Due.run("each kind", Due.with("HOLD 0, TRY 0, PUT 0 1, TAKE 0 1, SHARE 0 1, MOVE 0 0 0, CALL 1, PASS, END, END"),
                64, 0, 0, -4, -4, 10);
        Due.run("the act that fails, too", Due.with("PASS, FAIL 8, PASS"), 64, 1, 8, 0, 1, 2);
        Due.run("a HOLD that fails, too", Due.with("HOLD 9, PASS, END"), 64, 1, 1, 0, 0, 1);
        Due.run("a CALL that fails, too", Due.with("CALL 9, PASS"), 64, 1, 6, 0, 0, 1);
        Due.run("what is not come to is none", Due.with("TRY 0, FAIL 9, PASS, PASS, END"), 64, 0, 0, -4, -4, 2);
    }

    // "behind as many STEPS as were told, with another one to come, the run is STOPPED there."
    private static void stoppedWithAnotherToCome() {
        HeldShelves x = Due.with("HOLD 2, PUT 2 4, END, PASS");
        Due.run("no steps", x, 0, 2, 0, 0, 0, 0, 0, 0, 0, 0);
        Due.shelf("no steps", x, 2, 0, 0);
        Due.run("one step", x, 1, 2, 0, 0, 1, 1, 1, 1, 0, 0);
        Due.shelf("one step", x, 2, 0, 1);
        Due.run("two steps, the END to come", x, 2, 2, 0, 0, 2, 2, 1, 1, 0, 0);
        Due.shelf("two steps", x, 2, 4, 2);
        Due.run("three steps", x, 3, 2, 0, 0, 3, 3, 1, 1, 0, 0);
        Due.shelf("three steps", x, 2, 8, 2);
    }

    // "behind as many STEPS as were told, with another one to come, the run is STOPPED there."
    private static void stoppedBehindTheLastIsNot() {
        HeldShelves x = Due.with("HOLD 2, PUT 2 4, END, PASS");
        Due.run("just enough steps", x, 4, 0, 0, -4, -4, 4, 1, 1, 0, 0);
        Due.run("one too many", x, 5, 0, 0, -4, -4, 4, 1, 1, 0, 0);
        Due.run("an END is the last", Due.with("HOLD 0, END"), 2, 0, 0, -4, -4, 2, 1, 1, 0, 0);
        Due.run("it fails by the last", Due.with("FAIL 7, PASS"), 1, 1, 7, 0, 0, 1, 0, 0, 0, 0);
        Due.run("the last is caught", Due.with("TRY 0, FAIL 7, END"), 2, 0, 0, -4, -4, 2, 0, 0, 1, 0);
        Due.run("a call of no acts is the last", Due.with("CALL 1"), 1, 0, 0, -4, -4, 1, 0, 0, 0, 1);
    }

    // "behind as many STEPS as were told, with another one to come, the run is STOPPED there."
    private static void stoppedInCalledPlans() {
        HeldShelves x = Due.with("HOLD 0, TRY 0, CALL 1, END, END, PASS");
        Due.plan(x, 1, "HOLD 1, CALL 2, END, PASS");
        Due.run("ahead of the called plan's first", x, 3, 2, 0, 1, 0, 3, 1, 1, 0, 1);
        Due.run("behind a plan without acts", x, 5, 2, 0, 1, 2, 5, 2, 2, 0, 2);
        Due.shelf("behind a plan without acts", x, 0, 0, 2);
        Due.shelf("behind a plan without acts", x, 1, 0, 1);
        Due.run("ahead of the called plan's last", x, 6, 2, 0, 1, 3, 6, 2, 2, 0, 2);
        Due.run("back in the first", x, 7, 2, 0, 0, 3, 7, 2, 2, 0, 2);
        Due.run("to the end", x, 10, 0, 0, -4, -4, 10, 2, 2, 0, 2);
        HeldShelves y = Due.with("PASS, CALL 0");
        Due.run("itself", y, 7, 2, 0, 0, 1, 7, 0, 0, 0, 3);
    }

    // "behind as many STEPS as were told, with another one to come, the run is STOPPED there."
    private static void stoppedBehindWhatIsCaught() {
        HeldShelves x = Due.with("TRY 8, HOLD 0, FAIL 8, END, END, PASS");
        Due.run("caught by the last step, one to come", x, 3, 2, 0, 0, 5, 3, 1, 1, 1, 0);
        Due.shelf("left by the failure alone", x, 0, 0, 1);
        Due.is("it was caught", x.caught(8), 1);
        Due.run("the END of what is caught is no step", x, 4, 0, 0, -4, -4, 4, 1, 1, 1, 0);
        HeldShelves y = Due.with("PASS, TRY 8, CALL 1, END");
        Due.plan(y, 1, "FAIL 8");
        Due.run("caught out of a call by the last step", y, 4, 0, 0, -4, -4, 4, 0, 0, 1, 1);
    }

    // "behind as many STEPS as were told, with another one to come, the run is STOPPED there."
    private static void stoppedTwoPlansDeep() {
        HeldShelves x = Due.with("CALL 1");
        Due.plan(x, 1, "CALL 2");
        Due.plan(x, 2, "PASS");
        Due.run("no more behind three plans", x, 3, 0, 0, -4, -4, 3, 0, 0, 0, 2);
        Due.plan(x, 0, "PASS");
        Due.run("one more behind two plans that end", x, 3, 2, 0, 0, 1, 3, 0, 0, 0, 2);
    }

    // "HOLD: INDEX, NOTHING, else the SHELF is HELD once more while its BLOCK is done;"
    private static void holdFails() {
        HeldShelves x = Due.with("TRY 0, HOLD 8, END, END, TRY 1, HOLD 9, END, END, HOLD 4, END");
        Due.run("no hold", x, 64, 1, 2, 0, 8, 5, 0, 0, 2, 0);
        Due.caught("no hold", x, 2, 0, 0, 0, 0, 0, 0, 0, 0);
        x.shelf(4, 1);
        Due.run("hold", x, 64, 0, 0, -4, -4, 6, 1, 1, 2, 0);
        Due.shelf("a hold that failed before is not left", x, 4, 1, 0);
    }

    // "HOLD: INDEX, NOTHING, else the SHELF is HELD once more while its BLOCK is done;"
    private static void heldWhileItsBlockIsDone() {
        for (int shelf = 0; shelf < 8; shelf++) {
            HeldShelves x = Due.with("TRY 7, PUT # 1, END, HOLD #, PUT # 1, END, PUT # 1".replace("#", "" + shelf));
            x.shelf(shelf, 0);
            Due.run("held", x, 64, 1, 7, 0, 6, 6, 1, 1, 1, 0);
            Due.shelf("held", x, shelf, 1, 0);
        }
    }

    // "HOLD: INDEX, NOTHING, else the SHELF is HELD once more while its BLOCK is done;"
    private static void heldOnceMore() {
        HeldShelves x = Due.with("HOLD 0, HOLD 0, PUT 0 1, END, PUT 0 1, END, PUT 0 1");
        Due.run("again", x, 64, 1, 7, 0, 6, 7, 2, 2, 0, 0);
        Due.shelf("again", x, 0, 2, 0);
        HeldShelves y = Due.with("HOLD 0, TRY 8, HOLD 0, FAIL 8, END, END, PUT 0 3, END, PUT 0 3");
        Due.run("held once less, still held", y, 64, 1, 7, 0, 8, 7, 2, 2, 1, 0);
        Due.shelf("held once less, still held", y, 0, 3, 1);
    }

    // "HOLD: INDEX, NOTHING, else the SHELF is HELD once more while its BLOCK is done;"
    private static void heldInCalledPlans() {
        HeldShelves x = Due.with("HOLD 0, CALL 1, END, CALL 1");
        Due.plan(x, 1, "PUT 0 2");
        Due.run("held over calls", x, 64, 1, 7, 1, 0, 6, 1, 1, 0, 2);
        Due.shelf("held over calls", x, 0, 2, 0);
        HeldShelves y = Due.with("CALL 1, PUT 0 1");
        Due.plan(y, 1, "HOLD 0, END");
        Due.run("a called plan's hold ends in it", y, 64, 1, 7, 0, 1, 4, 1, 1, 0, 1);
    }

    // "at its END, or left by a FAILURE or the STOP, it is HELD once less; by these two LEFT of the
    // SHELF is one more."
    private static void leftByFailureOrStop() {
        HeldShelves x = Due.with("HOLD 1, HOLD 2, HOLD 1, FAIL 9, END, END, END");
        Due.run("failed", x, 64, 1, 9, 0, 3, 4, 3, 3, 0, 0);
        Due.shelf("failed", x, 1, 0, 2);
        Due.shelf("failed", x, 2, 0, 1);
        Due.shelf("not held", x, 0, 0, 0);
        Due.run("STOPPED", x, 3, 2, 0, 0, 3, 3, 3, 3, 0, 0);
        Due.shelf("STOPPED", x, 1, 0, 4);
        Due.shelf("STOPPED", x, 2, 0, 2);
        Due.run("STOPPED behind two", x, 2, 2, 0, 0, 2, 2, 2, 2, 0, 0);
        Due.shelf("STOPPED behind two", x, 1, 0, 5);
        Due.shelf("STOPPED behind two", x, 2, 0, 3);
    }

    // "at its END, or left by a FAILURE or the STOP, it is HELD once less; by these two LEFT of the
    // SHELF is one more."
    private static void notLeftByItsEnd() {
        HeldShelves x = Due.with("HOLD 1, HOLD 2, END, FAIL 8, END");
        Due.run("failed behind the END", x, 64, 1, 8, 0, 3, 4, 2, 2, 0, 0);
        Due.shelf("failed behind the END", x, 1, 0, 1);
        Due.shelf("its END was done", x, 2, 0, 0);
        HeldShelves y = Due.with("HOLD 1, END, PASS");
        Due.run("STOPPED ahead of the END", y, 1, 2, 0, 0, 1, 1, 1, 1, 0, 0);
        Due.shelf("STOPPED ahead of the END", y, 1, 0, 1);
        Due.run("STOPPED behind the END", y, 2, 2, 0, 0, 2, 2, 1, 1, 0, 0);
        Due.shelf("STOPPED behind the END", y, 1, 0, 1);
    }

    // "by these two LEFT of the SHELF is one more."
    private static void leftGoesOnFromRunToRun() {
        HeldShelves x = Due.with("HOLD 3, FAIL 8, END");
        for (int runs = 1; runs <= 100; runs++) {
            Due.run("run " + runs, x, runs % 3, runs % 3 == 2 ? 1 : 2);
            Due.is("LEFT behind run " + runs, x.about(3, 1), runs - runs / 3);
        }
    }

    // "at its END, or left by a FAILURE or the STOP, it is HELD once less;"
    private static void heldNoMoreBehindTheRun() {
        for (int steps = 0; steps <= 5; steps++) {
            HeldShelves x = Due.with("HOLD 0, HOLD 0, END, CALL 2, END");
            Due.plan(x, 1, "PUT 0 1");
            Due.plan(x, 2, "HOLD 0, FAIL 9, END");
            x.run(0, steps);
            Due.is("held no more behind " + steps + " steps", x.run(1, 64), 1);
            Due.told("held no more behind " + steps + " steps", x, 7, 1, 0, 1, 0, 0, 0, 0);
        }
    }

    // "HOLDS in all are counted, and how many are open at a time, at most (what MOVE holds counts for
    // nothing)."
    private static void holdsAreCounted() {
        HeldShelves x = Due.with("HOLD 0, HOLD 1, END, END, HOLD 2, HOLD 3, HOLD 0, END, END, END, HOLD 1, END");
        Due.run("holds", x, 64, 0, 0, -4, -4, 12, 6, 3, 0, 0);
        HeldShelves y = Due.with("TRY 0, HOLD 0, HOLD 1, FAIL 9, END, END, END, HOLD 2, END");
        Due.run("left holds are open no more", y, 64, 0, 0, -4, -4, 6, 3, 2, 1, 0);
        HeldShelves z = Due.with("MOVE 0 1 0, HOLD 2, MOVE 2 3 0, MOVE 2 2 0, END");
        Due.run("what MOVE holds", z, 64, 0, 0, -4, -4, 5, 1, 1, 0, 0);
        Due.run("no hold", Due.with("PASS"), 64, 0, 0, -4, -4, 1, 0, 0, 0, 0);
    }

    // "HOLDS in all are counted, and how many are open at a time, at most (what MOVE holds counts for
    // nothing)."
    private static void allStepsAreOpen() {
        HeldShelves x = new HeldShelves();
        for (int plan = 0; plan < 5; plan++) {
            Due.plan(x, plan, "HOLD 0, ".repeat(15) + "CALL " + (plan + 1) + ", END".repeat(15));
        }
        Due.run("all open", x, 64, 2, 0, 4, 0, 64, 60, 60, 0, 4);
        Due.shelf("all open", x, 0, 0, 60);
        HeldShelves y = Due.with("HOLD 7, ".repeat(16) + "CALL 0" + ", END".repeat(16));
        y.shelf(7, 0);
        Due.run("one plan, all open", y, 64, 2, 0, 0, 13, 64, 61, 61, 0, 3);
        Due.shelf("one plan, all open", y, 7, 0, 61);
    }

    // "TRY: a FAILURE of KIND a (0: of any) within its BLOCK (also out of a PLAN that is called there)
    // is CAUGHT: it goes on behind the BLOCK's END (which is no STEP then)."
    private static void guardsByKind() {
        String[] failing = {"HOLD 8, END", "HOLD 4, END", "SHARE 0 0", "TAKE 0 1", "PUT 1 1", "CALL 6", "PUT 2 1", "FAIL 8", "FAIL 9"};
        for (int failure = 1; failure <= 9; failure++) {
            for (int guard = 0; guard <= 9; guard++) {
                String acts = failing[failure - 1];
                HeldShelves x = Due.with("HOLD 0, HOLD 1, TRY " + guard + ", " + acts + ", PASS, END, END, END");
                x.shelf(1, 1000);
                String name = "TRY " + guard + " of failure " + failure;
                if (guard == 0 || guard == failure) {
                    Due.run(name, x, 64, 0, 0, -4, -4, 6, 2, 2, 1, 0);
                } else {
                    Due.run(name, x, 64, 1, failure, 0, 3, 4, 2, 2, 0, 0);
                }
            }
        }
    }

    // "(also out of a PLAN that is called there)"
    private static void guardsOverCalls() {
        HeldShelves x = Due.with("TRY 8, HOLD 0, CALL 1, PASS, END, END, PASS, CALL 1");
        Due.plan(x, 1, "TRY 9, HOLD 1, CALL 2, END, END, PASS");
        Due.plan(x, 2, "HOLD 2, FAIL 8, END");
        Due.run("over calls", x, 64, 1, 8, 2, 1, 15, 5, 3, 1, 4);
        Due.caught("over calls", x, 0, 0, 0, 0, 0, 0, 0, 1, 0);
        Due.shelf("over calls", x, 0, 0, 1);
        Due.shelf("over calls", x, 1, 0, 2);
        Due.shelf("over calls", x, 2, 0, 2);
        HeldShelves y = Due.with("TRY 0, CALL 1, PASS, END, PASS");
        Due.plan(y, 1, "CALL 2, PASS");
        Due.plan(y, 2, "CALL 3, PASS");
        Due.plan(y, 3, "CALL 4, PASS");
        Due.plan(y, 4, "FAIL 9, PASS");
        Due.run("out of the fifth plan", y, 64, 0, 0, -4, -4, 7, 0, 0, 1, 4);
    }

    // "it goes on behind the BLOCK's END (which is no STEP then)."
    private static void guardedEndIsNoStep() {
        HeldShelves x = Due.with("TRY 0, FAIL 9, END");
        Due.run("the plan's end is behind it", x, 64, 0, 0, -4, -4, 2, 0, 0, 1, 0);
        HeldShelves y = Due.with("TRY 0, PASS, END");
        Due.run("without a failure it is one", y, 64, 0, 0, -4, -4, 3, 0, 0, 0, 0);
        HeldShelves z = Due.with("TRY 9, TRY 0, FAIL 8, TRY 0, HOLD 0, END, END, END, FAIL 9, END, MOVE 0 1 1");
        z.shelf(0, 1);
        Due.run("behind its own END, not another's", z, 64, 0, 0, -4, -4, 5, 0, 0, 2, 0);
        Due.is("the last act was done", z.about(1, 0), 1);
    }

    // "TRY: a FAILURE of KIND a (0: of any) within its BLOCK"
    private static void guardsOfTheirBlockAlone() {
        HeldShelves x = Due.with("TRY 0, TRY 9, FAIL 9, END, FAIL 8, END, TRY 9, END, FAIL 9");
        Due.run("a guard that is closed catches no more", x, 64, 1, 9, 0, 8, 7, 0, 0, 2, 0);
        Due.caught("closed guards", x, 0, 0, 0, 0, 0, 0, 0, 1, 1);
        HeldShelves y = Due.with("FAIL 9, TRY 9, END");
        Due.run("a guard to come catches none", y, 64, 1, 9, 0, 0, 1, 0, 0, 0, 0);
        HeldShelves z = Due.with("CALL 1, FAIL 9");
        Due.plan(z, 1, "TRY 0, END");
        Due.run("a guard of a called plan is not its caller's", z, 64, 1, 9, 0, 1, 4, 0, 0, 0, 1);
        HeldShelves w = Due.with("TRY 9, FAIL 9, END, FAIL 9");
        Due.run("a guard that has caught catches no more", w, 64, 1, 9, 0, 3, 3, 0, 0, 1, 0);
    }

    // "Other ones, and the STOP, go on outwards, HOLDS by HOLDS."
    private static void othersGoOutwards() {
        HeldShelves x = Due.with("TRY 9, HOLD 0, TRY 8, HOLD 1, FAIL 9, END, END, PASS, END, PASS, END, PASS");
        Due.run("the outer one catches", x, 64, 0, 0, -4, -4, 6, 2, 2, 1, 0);
        Due.caught("the outer one catches", x, 0, 0, 0, 0, 0, 0, 0, 0, 1);
        Due.shelf("the outer one catches", x, 0, 0, 1);
        Due.shelf("the outer one catches", x, 1, 0, 1);
        HeldShelves y = Due.with("HOLD 0, TRY 8, HOLD 1, TRY 7, FAIL 9, END, END, END, END");
        Due.run("none catches", y, 64, 1, 9, 0, 4, 5, 2, 2, 0, 0);
        Due.shelf("none catches", y, 0, 0, 1);
        Due.shelf("none catches", y, 1, 0, 1);
        HeldShelves z = Due.with("HOLD 0, TRY 7, FAIL 7, END, PUT 0 1, END");
        Due.run("a hold around the guard stays", z, 64, 0, 0, -4, -4, 5, 1, 1, 1, 0);
        Due.shelf("a hold around the guard stays", z, 0, 1, 0);
    }

    // "Other ones, and the STOP, go on outwards, HOLDS by HOLDS."
    private static void theStopGoesOutwards() {
        HeldShelves x = Due.with("TRY 0, HOLD 1, TRY 0, HOLD 1, HOLD 3, PASS, END, END, END, END, END");
        Due.run("no guard catches it", x, 5, 2, 0, 0, 5, 5, 3, 3, 0, 0);
        Due.caught("no guard catches it", x, 0, 0, 0, 0, 0, 0, 0, 0, 0);
        Due.shelf("no guard catches it", x, 1, 0, 2);
        Due.shelf("no guard catches it", x, 3, 0, 1);
        for (int guard = 0; guard <= 9; guard++) {
            HeldShelves y = Due.with("TRY " + guard + ", HOLD 0, CALL 1, END, END");
            Due.plan(y, 1, "TRY " + guard + ", HOLD 1, END, END");
            Due.run("TRY " + guard + " around a call", y, 5, 2, 0, 1, 2, 5, 2, 2, 0, 1);
            Due.shelf("TRY " + guard + " around a call", y, 0, 0, 1);
            Due.shelf("TRY " + guard + " around a call", y, 1, 0, 1);
        }
    }

    // "A PLAN is done, with so many STEPS (0 to 64): 0 to its end, 1 it failed, 2 it was STOPPED.
    // OUTSIDE; STATE: it is not CLOSED."
    private static void runAnswers() {
        HeldShelves x = Due.with("PASS, TRY 8, FAIL 8, END, FAIL 9");
        Due.run("STOPPED", x, 3, 2);
        Due.run("failed", x, 4, 1);
        Due.run("failed again", x, 64, 1);
        x.clear(0);
        Due.run("to its end", x, 64, 0);
    }

    // "with so many STEPS (0 to 64)"
    private static void runStepsZeroToSixtyFour() {
        HeldShelves x = new HeldShelves();
        for (int wrong : new int[] {-1, 65, FAR, LOW}) {
            Due.is("run(0, " + wrong + ")", x.run(0, wrong), HeldShelves.OUTSIDE);
        }
        Due.plan(x, 0, "CALL 1");
        Due.plan(x, 1, "CALL 2, ".repeat(39) + "CALL 2");
        Due.plan(x, 0, "CALL 2, ".repeat(22) + "CALL 2");
        Due.run("64 of 64", x, 64, 0, 0, -4, -4, 64, 0, 0, 0, 64);
        Due.run("63 of 64", x, 63, 2, 0, 0, 23, 63, 0, 0, 0, 63);
        Due.run("1 of 64", x, 1, 2, 0, 1, 0, 1, 0, 0, 0, 1);
        Due.run("0 of 64", x, 0, 2, 0, 0, 0, 0, 0, 0, 0, 0);
        Due.plan(x, 0, "PASS");
        Due.run("64 of 65", x, 64, 2, 0, 0, 24, 64, 0, 0, 0, 64);
    }

    // "STATE: it is not CLOSED."
    private static void runOfWhatIsNotClosed() {
        for (String acts : new String[] {"HOLD 0", "TRY 0", "END", "END, TRY 0", "PASS, HOLD 0, END, END"}) {
            HeldShelves x = Due.with(acts);
            for (int steps : new int[] {0, 1, 64}) {
                Due.is("run of " + acts, x.run(0, steps), HeldShelves.STATE);
            }
            Due.told("no run yet", x, 0, -4, -4, 0, 0, 0, 0, 0);
            Due.is("OUTSIDE ahead of STATE", x.run(0, 65), HeldShelves.OUTSIDE);
        }
        HeldShelves y = Due.with("PASS, CALL 1");
        Due.plan(y, 1, "HOLD 0");
        Due.run("it is closed itself", y, 64, 1, 6, 0, 1);
    }

    // "A PLAN is done, with so many STEPS (0 to 64): 0 to its end, 1 it failed, 2 it was STOPPED."
    private static void runOfNoActs() {
        HeldShelves x = new HeldShelves();
        for (int steps : new int[] {0, 1, 64}) {
            Due.run("no acts", x, steps, 0, 0, -4, -4, 0, 0, 0, 0, 0);
        }
    }

    // "what = 0 the FAILURE by which it failed (0: none),"
    private static void toldFailure() {
        String[] failing = {"HOLD 9, END", "MOVE 0 7 0", "HOLD 0, SHARE 0 0, END", "MOVE 0 1 1", "MOVE 0 2 0, MOVE 3 2 1",
            "CALL 9", "PUT 0 0", "FAIL 8", "FAIL 9"};
        for (int failure = 1; failure <= 9; failure++) {
            HeldShelves x = Due.with(failing[failure - 1]);
            x.shelf(2, 1000);
            x.shelf(3, 1);
            Due.run("failure " + failure, x, 64, 1, failure);
        }
        Due.run("none: to its end", Due.with("PASS"), 64, 0, 0);
        Due.run("none: caught", Due.with("TRY 0, FAIL 9, END"), 64, 0, 0);
        Due.run("none: STOPPED", Due.with("TRY 0, FAIL 9, END, FAIL 8"), 2, 2, 0);
        Due.run("the one that was not caught", Due.with("TRY 0, FAIL 9, END, FAIL 8"), 3, 1, 8);
    }

    // "1, 2 the PLAN and the ACT where that was (of the STOP: the ACT to come; NONE without both),"
    private static void toldWhere() {
        HeldShelves x = new HeldShelves();
        Due.plan(x, 5, "PASS" + ", PASS".repeat(38) + ", FAIL 9");
        Due.is("run(5, 64)", x.run(5, 64), 1);
        Due.told("the last act of the last plan", x, 9, 5, 39, 40);
        Due.is("run(5, 39)", x.run(5, 39), 2);
        Due.told("it is to come", x, 0, 5, 39, 39);
        Due.is("run(5, 0)", x.run(5, 0), 2);
        Due.told("the first is to come", x, 0, 5, 0, 0);
        Due.plan(x, 3, "PASS, CALL 5");
        Due.is("run(3, 64)", x.run(3, 64), 1);
        Due.told("in the called plan", x, 9, 5, 39, 42);
        x.clear(5);
        Due.is("run(3, 64)", x.run(3, 64), 0);
        Due.told("NONE without both", x, 0, -4, -4, 2);
    }

    // "3 STEPS, 4 HOLDS in all, 5 the most open at a time,"
    private static void toldSteps() {
        HeldShelves x = Due.with("HOLD 0, END, HOLD 1, HOLD 1, END, END, HOLD 2, END, PASS");
        int[] holds = {0, 1, 1, 2, 3, 3, 3, 4, 4, 4};
        int[] most = {0, 1, 1, 1, 2, 2, 2, 2, 2, 2};
        for (int steps = 0; steps <= 9; steps++) {
            Due.run("steps " + steps, x, steps, steps < 9 ? 2 : 0);
            Due.is("STEPS of " + steps, x.told(3), steps);
            Due.is("HOLDS in all of " + steps, x.told(4), holds[steps]);
            Due.is("most open of " + steps, x.told(5), most[steps]);
        }
    }

    // "6 how many FAILURES were CAUGHT,"
    private static void toldCaught() {
        HeldShelves x = Due.with("TRY 0, FAIL 7, END, TRY 9, TRY 8, FAIL 9, END, END, TRY 8, END, TRY 7, PUT 0 1, END, FAIL 8");
        Due.run("three were, one was not", x, 64, 1, 8, 0, 13, 10, 0, 0, 3, 0);
        Due.caught("three were, one was not", x, 0, 0, 0, 0, 0, 0, 2, 0, 1);
        Due.run("one, STOPPED", x, 3, 2, 0, 0, 4, 3, 0, 0, 1, 0);
    }

    // "7 PLANS called (without the one that was run; a CALL that is WRONG calls none)."
    private static void toldCalled() {
        HeldShelves x = Due.with("TRY 6, CALL 6, END, TRY 6, CALL 1, END, CALL 2, CALL 2, CALL 1");
        Due.plan(x, 1, "HOLD 0");
        Due.run("two called, three WRONG", x, 64, 1, 6, 0, 8, 7, 0, 0, 2, 2);
        Due.caught("two called, three WRONG", x, 0, 0, 0, 0, 0, 2, 0, 0, 0);
        Due.run("no CALL", Due.with("PASS"), 64, 0, 0, -4, -4, 1, 0, 0, 0, 0);
        HeldShelves y = Due.with("TRY 0, CALL 1, END, CALL 1");
        Due.plan(y, 1, "FAIL 8");
        Due.run("what fails was called", y, 64, 1, 8, 1, 0, 5, 0, 0, 1, 2);
        Due.run("what is STOPPED was called", y, 4, 2, 0, 1, 0, 4, 0, 0, 1, 2);
        Due.run("itself", Due.with("TRY 6, CALL 0, END"), 64, 0, 0, -4, -4, 14, 0, 0, 1, 4);
    }

    // "Of the latest run:"
    private static void toldOfTheLatest() {
        HeldShelves x = Due.with("TRY 0, HOLD 0, CALL 1, END, END, TRY 9, FAIL 9, END, FAIL 9");
        Due.plan(x, 1, "FAIL 8");
        Due.run("failed", x, 64, 1, 9, 0, 8, 7, 1, 1, 2, 1);
        Due.plan(x, 3, "END");
        Due.is("STATE is no run", x.run(3, 64), HeldShelves.STATE);
        Due.is("OUTSIDE is no run", x.run(0, 65), HeldShelves.OUTSIDE);
        x.clear(0);
        x.clear(1);
        Due.told("still", x, 9, 0, 8, 7, 1, 1, 2, 1);
        Due.is("run of no acts", x.run(2, 64), 0);
        Due.told("anew", x, 0, -4, -4, 0, 0, 0, 0, 0);
    }

    // "All 0 (1, 2: NONE) before one. OUTSIDE."
    private static void toldBeforeARun() {
        HeldShelves x = Due.with("HOLD 0, FAIL 8, END");
        x.shelf(0, 5);
        Due.told("before", x, 0, -4, -4, 0, 0, 0, 0, 0);
        Due.caught("before", x, 0, 0, 0, 0, 0, 0, 0, 0, 0);
        Due.is("OUTSIDE", x.run(0, -1), HeldShelves.OUTSIDE);
        Due.told("still before", x, 0, -4, -4, 0, 0, 0, 0, 0);
    }

    // "All 0 (1, 2: NONE) before one. OUTSIDE."
    private static void toldZeroToSeven() {
        HeldShelves x = Due.with("FAIL 8");
        for (int runs = 0; runs < 2; runs++) {
            for (int wrong : new int[] {-1, 8, 9, FAR, LOW}) {
                Due.is("told(" + wrong + ")", x.told(wrong), HeldShelves.OUTSIDE);
            }
            Due.run("a run", x, 64, 1, 8, 0, 0, 1, 0, 0, 0, 0);
        }
    }

    // "How often a FAILURE (1 to 9) was CAUGHT in the latest run. OUTSIDE."
    private static void caughtOneToNine() {
        HeldShelves x = Due.with("TRY 0, HOLD 8, END, END, TRY 0, HOLD 7, END, END, HOLD 0, TRY 0, SHARE 0 0, END, "
                + "TRY 0, TAKE 0 1, END, END, TRY 0, MOVE 1 2 1, END, TRY 0, CALL 7, END, TRY 0, PUT 0 0, END, "
                + "TRY 0, FAIL 8, END, TRY 0, FAIL 9, END");
        x.shelf(1, 1);
        x.shelf(2, 1000);
        Due.run("each once", x, 64, 0, 0, -4, -4, 20, 1, 1, 9, 0);
        Due.caught("each once", x, 1, 1, 1, 1, 1, 1, 1, 1, 1);
        for (int wrong : new int[] {-1, 0, 10, FAR, LOW}) {
            Due.is("caught(" + wrong + ")", x.caught(wrong), HeldShelves.OUTSIDE);
        }
    }

    // "How often a FAILURE (1 to 9) was CAUGHT in the latest run. OUTSIDE."
    private static void caughtOften() {
        HeldShelves x = Due.with("CALL 1, CALL 1" + ", TRY 0, FAIL 9, END".repeat(5));
        Due.plan(x, 1, "TRY 8, FAIL 8, END" + ", TRY 8, FAIL 8, END".repeat(12));
        Due.run("often", x, 64, 0, 0, -4, -4, 64, 0, 0, 31, 2);
        Due.caught("often", x, 0, 0, 0, 0, 0, 0, 0, 26, 5);
    }

    // "How often a FAILURE (1 to 9) was CAUGHT in the latest run. OUTSIDE."
    private static void caughtOfTheLatest() {
        HeldShelves x = Due.with("TRY 0, FAIL 9, END, TRY 0, FAIL 8, END, FAIL 8");
        Due.run("failed", x, 64, 1, 8, 0, 6, 5, 0, 0, 2, 0);
        Due.caught("the one that was not caught does not count", x, 0, 0, 0, 0, 0, 0, 0, 1, 1);
        Due.run("a shorter one", x, 2, 2, 0, 0, 3, 2, 0, 0, 1, 0);
        Due.caught("a shorter one", x, 0, 0, 0, 0, 0, 0, 0, 0, 1);
        Due.is("run of no acts", x.run(1, 64), 0);
        Due.caught("anew", x, 0, 0, 0, 0, 0, 0, 0, 0, 0);
    }

    // "An object is used for at most 512 calls after it has been made; what later calls answer is
    // free."
    private static void allCallsOfAnObject() {
        HeldShelves x = new HeldShelves();
        for (int plan = 0; plan < 5; plan++) {
            Due.plan(x, plan, "HOLD 0, ".repeat(15) + "CALL " + (plan + 1) + ", END".repeat(15));
        }
        for (int call = 155; call < 511; call++) {
            Due.is("call " + call, x.run(0, 64), 2);
        }
        Due.is("the most that is LEFT, by the last call", x.about(0, 1), 60 * 356);
        HeldShelves y = Due.with("HOLD 0, SHARE 0 9, END");
        for (int call = 3; call < 511; call += 2) {
            y.shelf(0, 1000);
            Due.is("run of call " + call, y.run(0, 64), 0);
        }
        Due.is("THE REST of all, by the last call", y.rest(), 889 * 254);
    }
}

/**
 * What 'Terms' says of the kinds of acts, the failures and their order (promise 6, run). A remark
 * quotes the sentence of the document that its test is of.
 */
public final class ActsTest {
    public static void main(String[] args) {
        blocksOfNothing();
        blocksWithinBlocks();
        endIsOfTheInnermost();
        putMore();
        takeLess();
        shareOut();
        shareOfFewAndNone();
        moveFromOneToTheOther();
        failByItself();
        callAndPass();
        index();
        nothing();
        arithmetic();
        shortOfGoods();
        over();
        wrongNoSuchPlan();
        wrongNotClosed();
        wrongTooDeep();
        wrongDepthIsGivenBack();
        loose();
        orderOfPutTakeShare();
        orderOfMove();
        moveHoldsForItself();
        failedHasDoneNothing();
        doneAheadStays();
        Due.end();
    }

    // "0 HOLD a, 1 TRY a: a BLOCK of the ACTS up to their END (BLOCKS stand within each other). 2 END."
    private static void blocksOfNothing() {
        HeldShelves x = Due.with("HOLD 0, END, TRY 0, END, HOLD 0, TRY 0, END, END");
        Due.run("blocks of nothing", x, 64, 0, 0, -4, -4, 8, 2, 1, 0, 0);
        Due.shelf("blocks of nothing", x, 0, 0, 0);
    }

    // "0 HOLD a, 1 TRY a: a BLOCK of the ACTS up to their END (BLOCKS stand within each other). 2 END."
    private static void blocksWithinBlocks() {
        HeldShelves x = Due.with("HOLD 0, ".repeat(20) + "END" + ", END".repeat(19));
        Due.run("20 holds", x, 40, 0, 0, -4, -4, 40, 20, 20, 0, 0);
        HeldShelves y = Due.with("TRY 8, ".repeat(19) + "FAIL 8" + ", END".repeat(19));
        Due.run("the innermost of 19 guards", y, 38, 0, 0, -4, -4, 38, 0, 0, 1, 0);
        HeldShelves z = Due.with("TRY 8, " + "TRY 9, ".repeat(18) + "FAIL 8" + ", END".repeat(19) + ", PASS");
        Due.run("the outermost of 19 guards", z, 64, 0, 0, -4, -4, 21, 0, 0, 1, 0);
    }

    // "0 HOLD a, 1 TRY a: a BLOCK of the ACTS up to their END (BLOCKS stand within each other). 2 END."
    private static void endIsOfTheInnermost() {
        HeldShelves x = Due.with("HOLD 0, HOLD 1, END, PUT 0 1, TRY 7, PUT 1 1, END, PUT 0 1, END, PUT 0 1");
        Due.run("holds", x, 64, 1, 7, 0, 9, 9, 2, 2, 1, 0);
        Due.shelf("held up to its own END", x, 0, 2, 0);
        Due.shelf("held up to its own END", x, 1, 0, 0);
        HeldShelves y = Due.with("TRY 8, TRY 9, END, HOLD 0, END, FAIL 8, PASS, END, FAIL 8");
        Due.run("guards", y, 64, 1, 8, 0, 8, 7, 1, 1, 1, 0);
    }

    // "3 PUT a: b GOODS more."
    private static void putMore() {
        for (int b = 0; b <= 9; b++) {
            HeldShelves x = Due.with("HOLD 3, PUT 3 " + b + ", END");
            x.shelf(3, 100);
            Due.run("put " + b, x, 64, 0);
            Due.is("goods behind put " + b, x.about(3, 0), 100 + b);
            Due.is("no others", x.goods(), 100 + b);
        }
    }

    // "4 TAKE a: b GOODS less."
    private static void takeLess() {
        for (int b = 0; b <= 9; b++) {
            HeldShelves x = Due.with("HOLD 3, TAKE 3 " + b + ", END");
            x.shelf(3, 100);
            Due.run("take " + b, x, 64, 0);
            Due.is("goods behind take " + b, x.about(3, 0), 100 - b);
            Due.is("no others", x.goods(), 100 - b);
            Due.is("no rest", x.rest(), 0);
        }
    }

    // "5 SHARE a: its GOODS become what each of b gets (GOODS / b, cut), all the others go to THE REST."
    private static void shareOut() {
        int[] each = {1000, 500, 333, 250, 200, 166, 142, 125, 111};
        for (int b = 1; b <= 9; b++) {
            share(1000, b, each[b - 1]);
            share(b - 1, b, 0);
            share(b, b, 1);
            share(2 * b - 1, b, 1);
        }
    }

    // "5 SHARE a: its GOODS become what each of b gets (GOODS / b, cut), all the others go to THE REST."
    private static void shareOfFewAndNone() {
        share(0, 1, 0);
        share(0, 9, 0);
        share(1, 1, 1);
        share(1, 2, 0);
        share(17, 9, 1);
        share(18, 9, 2);
        HeldShelves x = Due.with("HOLD 3, SHARE 3 4, SHARE 3 2, END, HOLD 0, SHARE 0 9, END");
        x.shelf(0, 1000);
        x.shelf(3, 30);
        Due.run("shares of several", x, 64, 0);
        Due.is("shared twice", x.about(3, 0), 3);
        Due.is("rest of all", x.rest(), 27 + 889);
    }

    private static void share(int goods, int among, int each) {
        HeldShelves x = Due.with("HOLD 2, SHARE 2 " + among + ", END");
        x.shelf(2, goods);
        String name = goods + " among " + among;
        Due.run(name, x, 64, 0);
        Due.shelf(name, x, 2, each, 0);
        Due.is("rest of " + name, x.rest(), goods - each);
    }

    // "6 MOVE a b: c GOODS go from the one to the other."
    private static void moveFromOneToTheOther() {
        for (int c = 0; c <= 9; c++) {
            HeldShelves x = Due.with("MOVE 0 7 " + c + ", MOVE 7 1 " + c + ", MOVE 1 1 " + c);
            x.shelf(0, 9);
            x.shelf(7, 0);
            Due.run("move " + c, x, 64, 0, 0, -4, -4, 3, 0, 0, 0, 0);
            Due.shelf("from", x, 0, 9 - c, 0);
            Due.shelf("over", x, 7, 0, 0);
            Due.shelf("to", x, 1, c, 0);
        }
    }

    // "7 FAIL a (FAILURE 7, 8 or 9)."
    private static void failByItself() {
        for (int a = 7; a <= 9; a++) {
            Due.run("FAIL " + a, Due.with("PASS, FAIL " + a + ", PASS"), 64, 1, a, 0, 1, 2, 0, 0, 0, 0);
        }
    }

    // "8 CALL a: PLAN a is done. 9 PASS: nothing."
    private static void callAndPass() {
        for (int plan = 0; plan <= 5; plan++) {
            HeldShelves x = new HeldShelves();
            int other = (plan + 1) % 6;
            Due.plan(x, other, "CALL " + plan + ", PASS");
            Due.plan(x, plan, "MOVE 0 1 1, PASS");
            x.shelf(0, 5);
            Due.is("run of plan " + other, x.run(other, 64), 0);
            Due.told("call of plan " + plan, x, 0, -4, -4, 4, 0, 0, 0, 1);
            Due.is("it was done", x.about(1, 0), 1);
        }
        HeldShelves y = Due.with("CALL 1, CALL 1, PASS");
        Due.run("a plan without acts", y, 64, 0, 0, -4, -4, 3, 0, 0, 0, 2);
    }

    // "FAILURES: 1 INDEX (a SHELF 8 or 9),"
    private static void index() {
        for (String act : new String[] {"HOLD #, END", "PUT # 0", "TAKE # 0", "SHARE # 1", "MOVE # 0 0",
                "MOVE 0 # 0", "MOVE # # 0"}) {
            for (int shelf = 0; shelf <= 9; shelf++) {
                HeldShelves x = withAllShelves();
                Due.plan(x, 0, "HOLD 7, " + act.replace("#", Integer.toString(shelf)) + ", END");
                boolean outside = shelf >= 8;
                boolean loose = shelf < 7 && !act.startsWith("HOLD") && !act.startsWith("MOVE");
                int want = outside ? 1 : loose ? 7 : 0;
                Due.run(act + " of " + shelf, x, 64, want == 0 ? 0 : 1, want);
            }
        }
    }

    // "2 NOTHING (a SHELF that is not there),"
    private static void nothing() {
        for (String act : new String[] {"HOLD #, END", "PUT # 0", "TAKE # 0", "SHARE # 1", "MOVE # 1 0",
                "MOVE 1 # 0", "MOVE # # 0"}) {
            for (int shelf : new int[] {0, 3, 4, 7}) {
                HeldShelves x = withAllShelves();
                x.shelf(shelf, -1);
                Due.plan(x, 0, act.replace("#", Integer.toString(shelf)));
                Due.run(act + " of none", x, 64, 1, 2, 0, 0, 1, 0, 0, 0, 0);
                Due.is("still not there", x.about(shelf, 0), HeldShelves.STATE);
            }
        }
    }

    // "3 ARITHMETIC (SHARE by 0),"
    private static void arithmetic() {
        for (int goods : new int[] {0, 1, 1000}) {
            HeldShelves x = Due.with("HOLD 0, SHARE 0 0, END");
            x.shelf(0, goods);
            Due.run("by 0", x, 64, 1, 3, 0, 1, 2, 1, 1, 0, 0);
            Due.shelf("by 0", x, 0, goods, 1);
            Due.is("rest by 0", x.rest(), 0);
        }
        Due.run("by 1", Due.with("HOLD 0, SHARE 0 1, END"), 64, 0, 0);
    }

    // "4 SHORT (TAKE, MOVE of more than there is),"
    private static void shortOfGoods() {
        for (int number = 0; number <= 9; number++) {
            for (int goods = 0; goods <= 9; goods++) {
                String name = number + " of " + goods;
                boolean fails = number > goods;
                HeldShelves x = Due.with("HOLD 0, TAKE 0 " + number + ", END");
                x.shelf(0, goods);
                Due.run("TAKE " + name, x, 64, fails ? 1 : 0, fails ? 4 : 0);
                Due.is("goods behind TAKE " + name, x.about(0, 0), fails ? goods : goods - number);
                HeldShelves y = Due.with("MOVE 0 1 " + number);
                y.shelf(0, goods);
                Due.run("MOVE " + name, y, 64, fails ? 1 : 0, fails ? 4 : 0);
                Due.is("goods behind MOVE " + name, y.about(0, 0), fails ? goods : goods - number);
                Due.is("goods to MOVE " + name, y.about(1, 0), fails ? 0 : number);
            }
        }
    }

    // "5 OVER (more than 1000 GOODS),"
    private static void over() {
        for (int number = 0; number <= 9; number++) {
            for (int goods = 991; goods <= 1000; goods++) {
                String name = number + " to " + goods;
                boolean fails = goods + number > 1000;
                HeldShelves x = Due.with("HOLD 0, PUT 0 " + number + ", END");
                x.shelf(0, goods);
                Due.run("PUT " + name, x, 64, fails ? 1 : 0, fails ? 5 : 0);
                Due.is("goods behind PUT " + name, x.about(0, 0), fails ? goods : goods + number);
                HeldShelves y = Due.with("MOVE 1 0 " + number);
                y.shelf(0, goods);
                y.shelf(1, 9);
                Due.run("MOVE " + name, y, 64, fails ? 1 : 0, fails ? 5 : 0);
                Due.is("goods behind MOVE " + name, y.about(0, 0), fails ? goods : goods + number);
                Due.is("goods from MOVE " + name, y.about(1, 0), fails ? 9 : 9 - number);
            }
        }
    }

    // "6 WRONG (CALL of a PLAN that there is not, or that is not CLOSED; where 5 PLANS are being done
    // already, one within the other),"
    private static void wrongNoSuchPlan() {
        for (int plan = 1; plan <= 9; plan++) {
            boolean fails = plan > 5;
            HeldShelves x = Due.with("PASS, CALL " + plan);
            Due.run("CALL " + plan, x, 64, fails ? 1 : 0, fails ? 6 : 0, fails ? 0 : -4, fails ? 1 : -4, 2);
            Due.is("plans called", x.told(7), fails ? 0 : 1);
        }
    }

    // "or that is not CLOSED"
    private static void wrongNotClosed() {
        for (String acts : new String[] {"HOLD 0", "TRY 0, PASS", "END", "END, HOLD 0", "HOLD 0, END, END"}) {
            HeldShelves x = Due.with("TRY 6, CALL 1, PASS, END, CALL 1");
            Due.plan(x, 1, acts);
            Due.run("call of " + acts, x, 64, 1, 6, 0, 4, 3, 0, 0, 1, 0);
            Due.is("WRONG was caught", x.caught(6), 1);
            x.clear(1);
            Due.run("closed again", x, 64, 0, 0, -4, -4, 5, 0, 0, 0, 2);
        }
    }

    // "where 5 PLANS are being done already, one within the other"
    private static void wrongTooDeep() {
        HeldShelves x = Due.with("CALL 1");
        Due.plan(x, 1, "CALL 2");
        Due.plan(x, 2, "CALL 3");
        Due.plan(x, 3, "CALL 4");
        Due.run("the fifth is without acts", x, 64, 0, 0, -4, -4, 4, 0, 0, 0, 4);
        Due.plan(x, 4, "PASS, CALL 5");
        Due.run("a sixth", x, 64, 1, 6, 4, 1, 6, 0, 0, 0, 4);
        Due.is("the same, as a fifth", x.run(1, 64), 0);
        Due.told("as a fifth", x, 0, -4, -4, 5, 0, 0, 0, 4);
        HeldShelves y = Due.with("CALL 0");
        Due.run("itself", y, 64, 1, 6, 0, 0, 5, 0, 0, 0, 4);
        HeldShelves z = Due.with("TRY 8, HOLD 0, HOLD 1, HOLD 2, HOLD 3, TRY 9, CALL 0, END, END, END, END, END, END");
        Due.run("itself within blocks", z, 64, 1, 6, 0, 6, 35, 20, 20, 0, 4);
        for (int shelf = 0; shelf < 4; shelf++) {
            Due.shelf("itself within blocks", z, shelf, 0, 5);
        }
    }

    // "where 5 PLANS are being done already, one within the other"
    private static void wrongDepthIsGivenBack() {
        HeldShelves x = Due.with("CALL 1" + ", CALL 1".repeat(6));
        Due.plan(x, 1, "TRY 0, CALL 2, END");
        Due.plan(x, 2, "FAIL 8");
        Due.run("what has ended or failed is being done no more", x, 64, 0, 0, -4, -4, 28, 0, 0, 7, 14);
        HeldShelves y = Due.with("TRY 6, CALL 0, END, CALL 1, CALL 1");
        Due.run("deepest, caught, then a call at each depth", y, 64, 0, 0, -4, -4, 22, 0, 0, 2, 12);
        HeldShelves z = Due.with("CALL 0");
        Due.run("a run that failed", z, 64, 1, 6, 0, 0, 5, 0, 0, 0, 4);
        Due.run("the next begins anew", z, 64, 1, 6, 0, 0, 5, 0, 0, 0, 4);
        Due.run("one that is STOPPED", z, 3, 2, 0, 0, 0, 3, 0, 0, 0, 3);
        Due.run("the next begins anew", z, 64, 1, 6, 0, 0, 5, 0, 0, 0, 4);
    }

    // "7 LOOSE (PUT, TAKE, SHARE of a SHELF that is not HELD; also by FAIL), 8, 9."
    private static void loose() {
        for (String act : new String[] {"PUT 0 0", "TAKE 0 0", "SHARE 0 1"}) {
            Due.run(act, Due.with(act), 64, 1, 7, 0, 0, 1);
            Due.run(act + " held", Due.with("HOLD 0, " + act + ", END"), 64, 0, 0);
            Due.run(act + ", another held", Due.with("HOLD 1, " + act + ", END"), 64, 1, 7, 0, 1, 2);
            Due.run(act + " behind END", Due.with("HOLD 0, END, " + act), 64, 1, 7, 0, 2, 3);
            Due.run(act + " ahead of HOLD", Due.with(act + ", HOLD 0, END"), 64, 1, 7, 0, 0, 1);
            Due.run(act + " behind MOVE", Due.with("MOVE 0 1 0, " + act), 64, 1, 7, 0, 1, 2);
            HeldShelves x = Due.with("TRY 8, HOLD 0, FAIL 8, END, END, " + act);
            Due.run(act + " behind what was left", x, 64, 1, 7, 0, 5, 4);
        }
        Due.run("by FAIL", Due.with("HOLD 0, TRY 7, FAIL 7, END, PUT 0 1, END"), 64, 0, 0, -4, -4, 5, 1, 1, 1);
    }

    // "PUT, TAKE, SHARE, of several FAILURES the first of INDEX, NOTHING, LOOSE, ARITHMETIC, SHORT,
    // OVER;"
    private static void orderOfPutTakeShare() {
        failsBy("PUT 8 9", 1);
        failsBy("TAKE 9 9", 1);
        failsBy("SHARE 8 0", 1);
        failsBy("PUT 5 9", 2);
        failsBy("TAKE 5 9", 2);
        failsBy("SHARE 5 0", 2);
        failsBy("PUT 1 9", 7);
        failsBy("TAKE 0 9", 7);
        failsBy("SHARE 0 0", 7);
        failsBy("HOLD 0, SHARE 0 0, END", 3);
        failsBy("HOLD 0, TAKE 0 1, END", 4);
        failsBy("HOLD 1, PUT 1 1, END", 5);
    }

    // "MOVE (which holds both itself, first the one with the lesser number, and leaves no LEFT): the
    // first of INDEX (of a, then b), NOTHING, SHORT, OVER (of b; not, if both are the same)."
    private static void orderOfMove() {
        failsBy("MOVE 8 5 9", 1);
        failsBy("MOVE 5 9 9", 1);
        failsBy("MOVE 0 8 9", 1);
        failsBy("MOVE 9 1 9", 1);
        failsBy("MOVE 8 8 0", 1);
        failsBy("MOVE 5 0 9", 2);
        failsBy("MOVE 5 1 9", 2);
        failsBy("MOVE 0 5 9", 2);
        failsBy("MOVE 5 5 0", 2);
        failsBy("MOVE 0 1 9", 4);
        failsBy("MOVE 0 0 1", 4);
        failsBy("MOVE 2 1 1", 5);
        HeldShelves x = Due.with("MOVE 1 1 9, MOVE 1 1 0, MOVE 0 0 0, MOVE 2 1 0, MOVE 0 1 0");
        x.shelf(1, 1000);
        x.shelf(2, 500);
        Due.run("none is OVER or SHORT", x, 64, 0, 0, -4, -4, 5, 0, 0, 0, 0);
        Due.shelf("the same", x, 1, 1000, 0);
        Due.is("goods", x.goods(), 1500);
    }

    /** Shelf 0 has none, 1 is full, 2 has 500, 5 is not there. */
    private static void failsBy(String acts, int failure) {
        HeldShelves x = Due.with(acts);
        x.shelf(1, 1000);
        x.shelf(2, 500);
        Due.is("run of " + acts, x.run(0, 64), 1);
        Due.is("failure of " + acts, x.told(0), failure);
        Due.is("nothing done by " + acts, x.goods(), 1500);
        Due.is("no rest by " + acts, x.rest(), 0);
        for (int guard = 0; guard < 10; guard++) {
            HeldShelves y = Due.with("TRY " + guard + ", " + acts + ", END");
            y.shelf(1, 1000);
            y.shelf(2, 500);
            boolean catches = guard == 0 || guard == failure;
            Due.is("TRY " + guard + " of " + acts, y.run(0, 64), catches ? 0 : 1);
            Due.is("caught by TRY " + guard, y.caught(failure), catches ? 1 : 0);
            Due.is("told of TRY " + guard, y.told(0), catches ? 0 : failure);
        }
    }

    // "MOVE (which holds both itself, first the one with the lesser number, and leaves no LEFT)"
    private static void moveHoldsForItself() {
        HeldShelves x = Due.with("MOVE 1 2 9, MOVE 2 1 4, MOVE 1 1 4, HOLD 1, MOVE 1 3 3, MOVE 3 1 1, END");
        x.shelf(1, 9);
        Due.run("held or not", x, 64, 0, 0, -4, -4, 7, 1, 1, 0, 0);
        Due.shelf("held or not", x, 1, 2, 0);
        Due.shelf("held or not", x, 2, 5, 0);
        Due.shelf("held or not", x, 3, 2, 0);
        for (String act : new String[] {"MOVE 2 3 9", "MOVE 3 2 9", "MOVE 3 3 9", "MOVE 2 5 0", "MOVE 5 2 0", "MOVE 2 9 0"}) {
            HeldShelves y = Due.with(act);
            Due.is(act, y.run(0, 64), 1);
            Due.shelf(act, y, 2, 0, 0);
            Due.shelf(act, y, 3, 0, 0);
            Due.is("holds of " + act, y.told(4), 0);
            HeldShelves z = Due.with("HOLD 2, " + act + ", END");
            Due.is(act + ", held", z.run(0, 64), 1);
            Due.shelf(act + ", held", z, 2, 0, 1);
            Due.shelf(act + ", held", z, 3, 0, 0);
        }
    }

    // "What fails by itself has done nothing; what was done ahead of it stays."
    private static void failedHasDoneNothing() {
        for (String act : new String[] {"PUT 1 1", "TAKE 0 1", "SHARE 2 0", "MOVE 0 2 1", "MOVE 2 1 1", "MOVE 2 5 1",
                "MOVE 5 2 1", "MOVE 2 8 1", "PUT 3 1", "TAKE 3 1", "SHARE 3 2", "HOLD 5, END", "CALL 9"}) {
            HeldShelves x = Due.with("HOLD 0, HOLD 1, HOLD 2, TRY 0, CALL 1, PASS, END, END, END, END");
            Due.plan(x, 1, act);
            x.shelf(1, 1000);
            x.shelf(2, 500);
            x.shelf(3, 50);
            Due.run(act, x, 64, 0, 0, -4, -4, 9, 3, 3, 1, 1);
            Due.shelf(act, x, 0, 0, 0);
            Due.shelf(act, x, 1, 1000, 0);
            Due.shelf(act, x, 2, 500, 0);
            Due.shelf(act, x, 3, 50, 0);
            Due.is("rest of " + act, x.rest(), 0);
        }
    }

    // "What fails by itself has done nothing; what was done ahead of it stays."
    private static void doneAheadStays() {
        String acts = "HOLD 0, PUT 0 5, MOVE 0 1 2, SHARE 0 2, FAIL 9, END";
        HeldShelves x = Due.with("TRY 0, " + acts + ", END");
        Due.run("caught", x, 64, 0, 0, -4, -4, 6, 1, 1, 1, 0);
        Due.shelf("caught", x, 0, 1, 1);
        Due.shelf("caught", x, 1, 2, 0);
        Due.is("rest, caught", x.rest(), 2);
        HeldShelves y = Due.with(acts);
        Due.run("failed", y, 64, 1, 9, 0, 4, 5, 1, 1, 0, 0);
        Due.shelf("failed", y, 0, 1, 1);
        Due.shelf("failed", y, 1, 2, 0);
        Due.is("rest, failed", y.rest(), 2);
        HeldShelves z = Due.with(acts);
        Due.run("STOPPED", z, 4, 2, 0, 0, 4, 4, 1, 1, 0, 0);
        Due.shelf("STOPPED", z, 0, 1, 1);
        Due.shelf("STOPPED", z, 1, 2, 0);
        Due.is("rest, STOPPED", z.rest(), 2);
    }

    private static HeldShelves withAllShelves() {
        HeldShelves x = new HeldShelves();
        for (int shelf = 0; shelf < 8; shelf++) {
            x.shelf(shelf, 0);
        }
        return x;
    }
}

/**
 * Promises 1 a new object, 5 shelf, 9 about, 10 first, 11 row, 12 rest, 13 goods, and what 'Terms'
 * says of shelves. A remark quotes the sentence of the document that its test is of.
 */
public final class ShelvesTest {
    private static final int FAR = Due.FAR;
    private static final int LOW = Due.LOW;

    public static void main(String[] args) {
        newShelves();
        newPlans();
        newRestAndRun();
        objectsShareNothing();
        shelvesZeroToSeven();
        goodsUpToThousand();
        allShelvesAndNone();
        shelfAnswersWhatItHad();
        shelfForgetsLeft();
        shelfLeavesTheRunAlone();
        aboutAnswersGoodsAndLeft();
        aboutTakesNoughtAndOne();
        aboutOfNone();
        firstOfEnough();
        firstOfAnyNumber();
        firstOfNone();
        rowOfFew();
        rowUpToMore();
        rowUpToNone();
        restIsNoughtThen();
        restIsOfSharesAlone();
        goodsOfAll();
        goodsOfWhatIsThere();
        Due.end();
    }

    // "SHELVES 0 to 3, without GOODS; PLANS without ACTS; THE REST 0, no run."
    private static void newShelves() {
        HeldShelves x = new HeldShelves();
        for (int shelf = 0; shelf < 8; shelf++) {
            int want = shelf < 4 ? 0 : HeldShelves.STATE;
            Due.shelf("new", x, shelf, want, want);
        }
        Due.is("goods of new", x.goods(), 0);
        Due.is("first of new", x.first(0), 0);
        Due.is("row of new", x.row(0), 4);
        for (int shelf = 0; shelf < 8; shelf++) {
            Due.is("shelf " + shelf + " of new", x.shelf(shelf, 1), shelf < 4 ? 0 : HeldShelves.NONE);
        }
    }

    // "SHELVES 0 to 3, without GOODS; PLANS without ACTS; THE REST 0, no run."
    private static void newPlans() {
        HeldShelves x = new HeldShelves();
        for (int plan = 0; plan < 6; plan++) {
            Due.is("closed of new", x.closed(plan), 1);
            Due.is("run of new", x.run(plan, 0), 0);
            Due.is("clear of new", x.clear(plan), 0);
            Due.is("act of new", x.act(plan, 9, 0, 0, 0), 0);
        }
    }

    // "SHELVES 0 to 3, without GOODS; PLANS without ACTS; THE REST 0, no run."
    private static void newRestAndRun() {
        HeldShelves x = new HeldShelves();
        Due.told("new", x, 0, -4, -4, 0, 0, 0, 0, 0);
        Due.caught("new", x, 0, 0, 0, 0, 0, 0, 0, 0, 0);
        Due.is("rest of new", x.rest(), 0);
    }

    // "SHELVES 0 to 3, without GOODS; PLANS without ACTS; THE REST 0, no run."
    private static void objectsShareNothing() {
        HeldShelves x = new HeldShelves();
        Busy.make();
        Due.is("goods", x.goods(), 0);
        Due.is("rest", x.rest(), 0);
        Due.is("clear", x.clear(0), 0);
        Due.is("told", x.told(0), 0);
        Due.shelf("shelf 0", x, 0, 0, 0);
    }

    // "SHELVES 0 to 7 are there or not; each that is has GOODS (0 to 1000)."
    private static void shelvesZeroToSeven() {
        HeldShelves x = new HeldShelves();
        for (int shelf = 0; shelf <= 7; shelf++) {
            x.shelf(shelf, 10 + shelf);
            Due.is("goods of shelf " + shelf, x.about(shelf, 0), 10 + shelf);
        }
        for (int wrong : new int[] {-1, 8, 9, FAR, LOW}) {
            Due.is("shelf(" + wrong + ", 1)", x.shelf(wrong, 1), HeldShelves.OUTSIDE);
            Due.is("shelf(" + wrong + ", -1)", x.shelf(wrong, -1), HeldShelves.OUTSIDE);
            Due.is("about(" + wrong + ", 0)", x.about(wrong, 0), HeldShelves.OUTSIDE);
        }
        Due.is("goods of all", x.goods(), 108);
    }

    // "SHELVES 0 to 7 are there or not; each that is has GOODS (0 to 1000)."
    private static void goodsUpToThousand() {
        for (int shelf : new int[] {0, 7}) {
            HeldShelves x = new HeldShelves();
            x.shelf(shelf, 1000);
            Due.is("1000", x.about(shelf, 0), 1000);
            for (int wrong : new int[] {-2, 1001, FAR, LOW}) {
                Due.is("shelf(.., " + wrong + ")", x.shelf(shelf, wrong), HeldShelves.OUTSIDE);
                Due.is("1000 still", x.about(shelf, 0), 1000);
            }
            Due.is("0", x.shelf(shelf, 0), 1000);
            Due.is("0 is there", x.about(shelf, 0), 0);
            Due.is("-1", x.shelf(shelf, -1), 0);
            Due.is("-1 is not there", x.about(shelf, 0), HeldShelves.STATE);
            Due.is("1001 for one that is not there", x.shelf(shelf, 1001), HeldShelves.OUTSIDE);
            Due.is("-2 for one that is not there", x.shelf(shelf, -2), HeldShelves.OUTSIDE);
            Due.is("still not there", x.about(shelf, 0), HeldShelves.STATE);
        }
    }

    // "SHELVES 0 to 7 are there or not; each that is has GOODS (0 to 1000)."
    private static void allShelvesAndNone() {
        HeldShelves x = new HeldShelves();
        all(x, 1000);
        Due.is("goods of all", x.goods(), 8000);
        Due.is("row of all", x.row(1000), 8);
        Due.is("first of all", x.first(1000), 0);
        all(x, -1);
        Due.is("goods of none", x.goods(), 0);
        Due.is("row of none", x.row(1000), 0);
        Due.is("first of none", x.first(0), HeldShelves.NONE);
        for (int shelf = 0; shelf < 8; shelf++) {
            Due.is("shelf " + shelf + " again", x.shelf(shelf, 0), HeldShelves.NONE);
        }
    }

    // "A SHELF is there with so many GOODS (0 to 1000; LEFT is 0), or, by -1, not: what it had; NONE:
    // it was not there. OUTSIDE."
    private static void shelfAnswersWhatItHad() {
        HeldShelves x = new HeldShelves();
        Due.is("shelf(3, 1000)", x.shelf(3, 1000), 0);
        Due.is("shelf(3, 0)", x.shelf(3, 0), 1000);
        Due.is("shelf(3, -1)", x.shelf(3, -1), 0);
        Due.is("shelf(3, -1) again", x.shelf(3, -1), HeldShelves.NONE);
        Due.is("shelf(3, 7)", x.shelf(3, 7), HeldShelves.NONE);
        Due.is("shelf(7, 12)", x.shelf(7, 12), HeldShelves.NONE);
        Due.is("shelf(7, 13)", x.shelf(7, 13), 12);
        Due.is("shelf(7, 13) again", x.shelf(7, 13), 13);
        Due.is("shelf(8, 1)", x.shelf(8, 1), HeldShelves.OUTSIDE);
        Due.shelf("set", x, 3, 7, 0);
        Due.shelf("set", x, 7, 13, 0);
        Due.plan(x, 0, "HOLD 7, TAKE 7 4, END");
        x.run(0, 64);
        Due.is("what a run left there", x.shelf(7, -1), 9);
    }

    // "(0 to 1000; LEFT is 0)"
    private static void shelfForgetsLeft() {
        HeldShelves x = Due.with("HOLD 1, HOLD 2, FAIL 8, END, END");
        x.run(0, 64);
        x.run(0, 64);
        Due.is("LEFT of two runs", x.about(1, 1), 2);
        x.shelf(1, 1001);
        Due.is("LEFT behind OUTSIDE", x.about(1, 1), 2);
        x.shelf(1, 0);
        Due.is("LEFT behind shelf", x.about(1, 1), 0);
        Due.is("LEFT of another", x.about(2, 1), 2);
        x.run(0, 64);
        x.shelf(1, -1);
        Due.is("LEFT of none", x.about(1, 1), HeldShelves.STATE);
        x.shelf(1, 3);
        Due.is("LEFT of one that is there again", x.about(1, 1), 0);
    }

    // "A SHELF is there with so many GOODS (0 to 1000; LEFT is 0), or, by -1, not: what it had; NONE:
    // it was not there. OUTSIDE."
    private static void shelfLeavesTheRunAlone() {
        HeldShelves x = Due.with("HOLD 0, SHARE 0 4, FAIL 9, END");
        x.shelf(0, 9);
        x.run(0, 64);
        all(x, -1);
        Due.told("run", x, 9, 0, 2, 3, 1, 1, 0, 0);
        Due.is("rest", x.rest(), 7);
        Due.is("act", x.act(0, 9, 0, 0, 0), 4);
    }

    // "Of a SHELF: what = 0 GOODS, 1 LEFT. OUTSIDE; STATE: it is not there."
    private static void aboutAnswersGoodsAndLeft() {
        HeldShelves x = Due.with("HOLD 7, HOLD 0, HOLD 7, PUT 7 3, FAIL 8, END, END, END");
        x.shelf(7, 997);
        x.run(0, 64);
        Due.shelf("the last", x, 7, 1000, 2);
        Due.shelf("the first", x, 0, 0, 1);
        Due.shelf("another", x, 1, 0, 0);
    }

    // "Of a SHELF: what = 0 GOODS, 1 LEFT. OUTSIDE; STATE: it is not there."
    private static void aboutTakesNoughtAndOne() {
        HeldShelves x = new HeldShelves();
        for (int wrong : new int[] {-1, 8, FAR, LOW}) {
            Due.is("about(" + wrong + ", 0)", x.about(wrong, 0), HeldShelves.OUTSIDE);
            Due.is("about(" + wrong + ", 1)", x.about(wrong, 1), HeldShelves.OUTSIDE);
        }
        for (int wrong : new int[] {-1, 2, FAR, LOW}) {
            Due.is("about(0, " + wrong + ")", x.about(0, wrong), HeldShelves.OUTSIDE);
            Due.is("OUTSIDE ahead of STATE", x.about(6, wrong), HeldShelves.OUTSIDE);
        }
    }

    // "STATE: it is not there."
    private static void aboutOfNone() {
        HeldShelves x = new HeldShelves();
        Due.shelf("never there", x, 4, HeldShelves.STATE, HeldShelves.STATE);
        Due.shelf("never there", x, 7, HeldShelves.STATE, HeldShelves.STATE);
        x.shelf(0, -1);
        Due.shelf("there no more", x, 0, HeldShelves.STATE, HeldShelves.STATE);
    }

    // "The first SHELF that is there and has so many GOODS at least (any number); NONE."
    private static void firstOfEnough() {
        HeldShelves x = new HeldShelves();
        Due.is("first(0)", x.first(0), 0);
        Due.is("first(1)", x.first(1), HeldShelves.NONE);
        x.shelf(2, 10);
        x.shelf(3, 10);
        x.shelf(7, 1000);
        Due.is("first(9)", x.first(9), 2);
        Due.is("first(10)", x.first(10), 2);
        Due.is("first(11)", x.first(11), 7);
        Due.is("first(1000)", x.first(1000), 7);
        Due.is("first(1001)", x.first(1001), HeldShelves.NONE);
    }

    // "The first SHELF that is there and has so many GOODS at least (any number); NONE."
    private static void firstOfAnyNumber() {
        HeldShelves x = new HeldShelves();
        Due.is("first(LOW)", x.first(LOW), 0);
        Due.is("first(FAR)", x.first(FAR), HeldShelves.NONE);
        x.shelf(0, -1);
        for (int least : new int[] {0, -1, -2, -4, LOW}) {
            Due.is("first(" + least + ") skips none", x.first(least), 1);
        }
    }

    // "The first SHELF that is there and has so many GOODS at least (any number); NONE."
    private static void firstOfNone() {
        HeldShelves x = new HeldShelves();
        all(x, -1);
        for (int least : new int[] {LOW, -4, -1, 0, 1, FAR}) {
            Due.is("first(" + least + ")", x.first(least), HeldShelves.NONE);
        }
        x.shelf(7, 0);
        Due.is("the last one alone", x.first(0), 7);
        Due.is("the last one with less", x.first(1), HeldShelves.NONE);
    }

    // "How many SHELVES, from 0 on, have so many GOODS at most, up to the first one that has more, or
    // is not there."
    private static void rowOfFew() {
        HeldShelves x = new HeldShelves();
        Due.is("row(0)", x.row(0), 4);
        Due.is("row(FAR)", x.row(FAR), 4);
        Due.is("row(-1)", x.row(-1), 0);
        Due.is("row(LOW)", x.row(LOW), 0);
        all(x, 1000);
        Due.is("row(999)", x.row(999), 0);
        Due.is("row(1000)", x.row(1000), 8);
        Due.is("row(FAR)", x.row(FAR), 8);
    }

    // "up to the first one that has more"
    private static void rowUpToMore() {
        for (int shelf = 0; shelf < 8; shelf++) {
            HeldShelves x = new HeldShelves();
            all(x, 5);
            x.shelf(shelf, 6);
            Due.is("row(4) up to " + shelf, x.row(4), 0);
            Due.is("row(5) up to " + shelf, x.row(5), shelf);
            Due.is("row(6) up to " + shelf, x.row(6), 8);
        }
    }

    // "or is not there."
    private static void rowUpToNone() {
        for (int shelf = 0; shelf < 8; shelf++) {
            HeldShelves x = new HeldShelves();
            all(x, 5);
            x.shelf(shelf, -1);
            Due.is("row(5) up to none at " + shelf, x.row(5), shelf);
            Due.is("row(-1) up to none at " + shelf, x.row(-1), 0);
        }
    }

    // "THE REST, which is 0 then."
    private static void restIsNoughtThen() {
        HeldShelves x = Due.with("HOLD 0, SHARE 0 3, END");
        Due.is("rest before a run", x.rest(), 0);
        x.shelf(0, 10);
        x.run(0, 64);
        Due.is("goods", x.about(0, 0), 3);
        x.run(0, 64);
        Due.is("goods", x.about(0, 0), 1);
        Due.is("rest of two runs", x.rest(), 9);
        Due.is("rest again", x.rest(), 0);
        x.run(0, 64);
        Due.is("rest of the next run alone", x.rest(), 1);
    }

    // "THE REST, which is 0 then."
    private static void restIsOfSharesAlone() {
        HeldShelves x = Due.with("HOLD 0, PUT 0 9, TAKE 0 4, MOVE 0 1 2, END");
        x.run(0, 64);
        x.shelf(0, -1);
        x.shelf(1, 0);
        Due.is("rest without a SHARE", x.rest(), 0);
    }

    // "GOODS of all SHELVES."
    private static void goodsOfAll() {
        HeldShelves x = new HeldShelves();
        Due.is("goods of none", x.goods(), 0);
        for (int shelf = 0; shelf < 8; shelf++) {
            x.shelf(shelf, 1000 - shelf);
        }
        Due.is("goods of eight", x.goods(), 7972);
        all(x, 1000);
        Due.is("the most", x.goods(), 8000);
    }

    // "GOODS of all SHELVES."
    private static void goodsOfWhatIsThere() {
        for (int shelf = 0; shelf < 8; shelf++) {
            HeldShelves x = new HeldShelves();
            all(x, -1);
            Due.is("goods of no shelf", x.goods(), 0);
            x.shelf(shelf, 7);
            Due.is("goods of shelf " + shelf, x.goods(), 7);
        }
        HeldShelves y = Due.with("HOLD 0, SHARE 0 2, END");
        y.shelf(0, 10);
        y.run(0, 64);
        Due.is("THE REST is on no shelf", y.goods(), 5);
    }

    private static void all(HeldShelves x, int goods) {
        for (int shelf = 0; shelf < 8; shelf++) {
            x.shelf(shelf, goods);
        }
    }
}

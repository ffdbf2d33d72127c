/** Promises 1 a new object, 5 shelf, 9 about, 10 first, 11 row, 12 rest, 13 goods. */
public final class ShelvesTest {
    private static final int FAR = Integer.MAX_VALUE;
    private static final int LOW = Integer.MIN_VALUE;

    public static void main(String[] args) {
        newObject();
        shelfAnswersWhatItHad();
        shelfTakesOnlyWhatIsTold();
        shelfForgetsLeft();
        aboutCodes();
        firstOfEnough();
        rowOfFew();
        restIsGivenOnce();
        goodsOfAll();
        Due.end();
    }

    private static void newObject() {
        HeldShelves x = new HeldShelves();
        for (int shelf = 0; shelf < 8; shelf++) {
            int want = shelf < 4 ? 0 : HeldShelves.STATE;
            Due.shelf("new", x, shelf, want, want);
        }
        for (int plan = 0; plan < 6; plan++) {
            Due.is("clear of new", x.clear(plan), 0);
            Due.is("closed of new", x.closed(plan), 1);
        }
        Due.told("new", x, 0, -4, -4, 0, 0, 0, 0, 0);
        Due.caught("new", x, 0, 0, 0, 0, 0, 0, 0, 0, 0);
        Due.is("rest of new", x.rest(), 0);
        Due.is("goods of new", x.goods(), 0);
        HeldShelves other = new HeldShelves();
        other.shelf(0, 5);
        Due.is("objects share nothing", x.goods(), 0);
    }

    private static void shelfAnswersWhatItHad() {
        HeldShelves x = new HeldShelves();
        Due.is("shelf(3, 1000)", x.shelf(3, 1000), 0);
        Due.is("shelf(3, 0)", x.shelf(3, 0), 1000);
        Due.is("shelf(3, -1)", x.shelf(3, -1), 0);
        Due.is("shelf(3, -1) again", x.shelf(3, -1), HeldShelves.NONE);
        Due.is("shelf(3, 7)", x.shelf(3, 7), HeldShelves.NONE);
        Due.is("shelf(7, 12)", x.shelf(7, 12), HeldShelves.NONE);
        Due.is("shelf(7, 13)", x.shelf(7, 13), 12);
        Due.shelf("set", x, 3, 7, 0);
        Due.shelf("set", x, 7, 13, 0);
    }

    private static void shelfTakesOnlyWhatIsTold() {
        HeldShelves x = new HeldShelves();
        x.shelf(2, 50);
        for (int wrong : new int[] {-1, 8, 9, FAR, LOW}) {
            Due.is("shelf(" + wrong + ", 1)", x.shelf(wrong, 1), HeldShelves.OUTSIDE);
            Due.is("shelf(" + wrong + ", -1)", x.shelf(wrong, -1), HeldShelves.OUTSIDE);
        }
        for (int wrong : new int[] {-2, 1001, FAR, LOW}) {
            Due.is("shelf(2, " + wrong + ")", x.shelf(2, wrong), HeldShelves.OUTSIDE);
        }
        Due.is("nothing changed", x.about(2, 0), 50);
        Due.is("nothing changed in all", x.goods(), 50);
    }

    private static void shelfForgetsLeft() {
        HeldShelves x = Due.with("HOLD 1, FAIL 8, END");
        x.run(0, 64);
        x.run(0, 64);
        Due.is("LEFT of two runs", x.about(1, 1), 2);
        x.shelf(1, 1001);
        Due.is("LEFT behind OUTSIDE", x.about(1, 1), 2);
        x.shelf(1, 0);
        Due.is("LEFT behind shelf", x.about(1, 1), 0);
        x.run(0, 64);
        x.shelf(1, -1);
        Due.is("LEFT of none", x.about(1, 1), HeldShelves.STATE);
        x.shelf(1, 3);
        Due.is("LEFT of one that is there again", x.about(1, 1), 0);
    }

    private static void aboutCodes() {
        HeldShelves x = new HeldShelves();
        for (int wrong : new int[] {-1, 8, FAR, LOW}) {
            Due.is("about(" + wrong + ", 0)", x.about(wrong, 0), HeldShelves.OUTSIDE);
        }
        for (int wrong : new int[] {-1, 2, FAR, LOW}) {
            Due.is("about(0, " + wrong + ")", x.about(0, wrong), HeldShelves.OUTSIDE);
            Due.is("OUTSIDE ahead of STATE", x.about(6, wrong), HeldShelves.OUTSIDE);
        }
        Due.is("about(4, 1)", x.about(4, 1), HeldShelves.STATE);
    }

    private static void firstOfEnough() {
        HeldShelves x = new HeldShelves();
        Due.is("first(0)", x.first(0), 0);
        Due.is("first(1)", x.first(1), HeldShelves.NONE);
        x.shelf(0, -1);
        Due.is("first(-1)", x.first(-1), 1);
        Due.is("first(LOW)", x.first(LOW), 1);
        x.shelf(2, 10);
        x.shelf(7, 1000);
        Due.is("first(10)", x.first(10), 2);
        Due.is("first(11)", x.first(11), 7);
        Due.is("first(1000)", x.first(1000), 7);
        Due.is("first(1001)", x.first(1001), HeldShelves.NONE);
        Due.is("first(FAR)", x.first(FAR), HeldShelves.NONE);
        for (int shelf = 0; shelf < 8; shelf++) {
            x.shelf(shelf, -1);
        }
        Due.is("first(LOW) of no shelf", x.first(LOW), HeldShelves.NONE);
    }

    private static void rowOfFew() {
        HeldShelves x = new HeldShelves();
        Due.is("row(0)", x.row(0), 4);
        Due.is("row(-1)", x.row(-1), 0);
        Due.is("row(LOW)", x.row(LOW), 0);
        x.shelf(2, 6);
        Due.is("row(5)", x.row(5), 2);
        Due.is("row(6)", x.row(6), 4);
        for (int shelf = 4; shelf < 8; shelf++) {
            x.shelf(shelf, 1000);
        }
        Due.is("row(999)", x.row(999), 4);
        Due.is("row(1000)", x.row(1000), 8);
        Due.is("row(FAR)", x.row(FAR), 8);
        x.shelf(1, -1);
        Due.is("row(FAR) up to none", x.row(FAR), 1);
        x.shelf(0, -1);
        Due.is("row(FAR) of none", x.row(FAR), 0);
    }

    private static void restIsGivenOnce() {
        HeldShelves x = Due.with("HOLD 0, SHARE 0 3, END");
        x.shelf(0, 10);
        x.run(0, 64);
        Due.is("goods", x.about(0, 0), 3);
        x.run(0, 64);
        Due.is("goods", x.about(0, 0), 1);
        Due.is("rest of two runs", x.rest(), 9);
        Due.is("rest again", x.rest(), 0);
    }

    private static void goodsOfAll() {
        HeldShelves x = new HeldShelves();
        for (int shelf = 0; shelf < 8; shelf++) {
            x.shelf(shelf, 1000 - shelf);
        }
        Due.is("goods of eight", x.goods(), 7972);
        x.shelf(0, -1);
        x.shelf(7, -1);
        Due.is("goods of six", x.goods(), 5979);
    }
}

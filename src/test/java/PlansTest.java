/** Promises 2 act, 3 clear, 4 closed. */
public final class PlansTest {
    private static final int FAR = Integer.MAX_VALUE;
    private static final int LOW = Integer.MIN_VALUE;

    /** How many of a, b, c each kind names. */
    private static final int[] NAMED = {1, 1, 0, 2, 2, 2, 3, 1, 1, 0};

    public static void main(String[] args) {
        actsAreNumbered();
        actTakesOnlyPlansAndKinds();
        actLooksAtWhatIsNamed();
        actLeavesTheUnnamedAlone();
        failTakesSevenToNine();
        actIsFull();
        refusedActChangesNothing();
        clearAnswersHowMany();
        closedByBlocks();
        Due.end();
    }

    private static void actsAreNumbered() {
        HeldShelves x = new HeldShelves();
        for (int plan = 0; plan < 6; plan++) {
            Due.is("act of plan " + plan, x.act(plan, 9, 0, 0, 0), 0);
            Due.is("act of plan " + plan, x.act(plan, 2, 0, 0, 0), 1);
        }
    }

    private static void actTakesOnlyPlansAndKinds() {
        HeldShelves x = new HeldShelves();
        for (int wrong : new int[] {-1, 6, 7, FAR, LOW}) {
            Due.is("act of plan " + wrong, x.act(wrong, 9, 0, 0, 0), HeldShelves.OUTSIDE);
        }
        for (int wrong : new int[] {-1, 10, 11, FAR, LOW}) {
            Due.is("act of kind " + wrong, x.act(0, wrong, 0, 0, 0), HeldShelves.OUTSIDE);
        }
    }

    private static void actLooksAtWhatIsNamed() {
        for (int kind = 0; kind < 10; kind++) {
            for (int place = 0; place < 3; place++) {
                for (int number : new int[] {-1, 0, 9, 10, FAR, LOW}) {
                    int[] numbers = {8, 8, 8};
                    numbers[place] = number;
                    boolean named = place < NAMED[kind];
                    boolean fits = number >= (kind == 7 ? 7 : 0) && number <= 9;
                    int want = named && !fits ? HeldShelves.OUTSIDE : 0;
                    int got = new HeldShelves().act(0, kind, numbers[0], numbers[1], numbers[2]);
                    Due.is("kind " + kind + ", place " + place + ", " + number, got, want);
                }
            }
        }
    }

    private static void actLeavesTheUnnamedAlone() {
        HeldShelves x = new HeldShelves();
        x.act(0, 0, 1, FAR, LOW);
        x.act(0, 9, FAR, FAR, FAR);
        x.act(0, 3, 1, 5, -7);
        x.act(0, 2, LOW, LOW, LOW);
        x.act(0, 1, 8, -99, 12345);
        x.act(0, 7, 8, 1000, -1000);
        x.act(0, 2, -1, 4711, -1);
        Due.is("run", x.run(0, 64), 0);
        Due.told("unnamed", x, 0, -4, -4, 6, 1, 1, 1, 0);
        Due.shelf("unnamed", x, 1, 5, 0);
    }

    private static void failTakesSevenToNine() {
        HeldShelves x = new HeldShelves();
        for (int a = -1; a <= 10; a++) {
            boolean fits = a >= 7 && a <= 9;
            Due.is("FAIL " + a, x.act(0, 7, a, 0, 0), fits ? a - 7 : HeldShelves.OUTSIDE);
        }
    }

    private static void actIsFull() {
        HeldShelves x = new HeldShelves();
        for (int i = 0; i < 40; i++) {
            Due.is("act " + i, x.act(5, 9, 0, 0, 0), i);
        }
        Due.is("act 40", x.act(5, 9, 0, 0, 0), HeldShelves.FULL);
        Due.is("OUTSIDE is named ahead of FULL", x.act(5, 3, 0, 10, 0), HeldShelves.OUTSIDE);
        Due.is("another plan has room", x.act(4, 9, 0, 0, 0), 0);
        Due.is("run of 40", x.run(5, 64), 0);
        Due.is("steps of 40", x.told(3), 40);
        Due.is("clear of 40", x.clear(5), 40);
        Due.is("act behind clear", x.act(5, 9, 0, 0, 0), 0);
    }

    private static void refusedActChangesNothing() {
        HeldShelves x = new HeldShelves();
        x.act(0, 9, 0, 0, 0);
        x.act(0, 0, 10, 0, 0);
        x.act(0, 7, 6, 0, 0);
        Due.is("closed", x.closed(0), 1);
        Due.is("clear", x.clear(0), 1);
    }

    private static void clearAnswersHowMany() {
        HeldShelves x = Due.with("HOLD 0, PASS, PASS");
        Due.plan(x, 1, "PASS");
        Due.is("clear(0)", x.clear(0), 3);
        Due.is("clear(0) again", x.clear(0), 0);
        Due.is("closed(0)", x.closed(0), 1);
        Due.is("clear(1)", x.clear(1), 1);
        Due.is("clear(-1)", x.clear(-1), HeldShelves.OUTSIDE);
        Due.is("clear(6)", x.clear(6), HeldShelves.OUTSIDE);
        Due.is("clear(LOW)", x.clear(LOW), HeldShelves.OUTSIDE);
    }

    private static void closedByBlocks() {
        closed("PASS", 1);
        closed("HOLD 0, END", 1);
        closed("TRY 0, END, HOLD 9, END", 1);
        closed("HOLD 0, TRY 1, END, END", 1);
        closed("HOLD 0", 0);
        closed("TRY 0", 0);
        closed("END", 0);
        closed("END, HOLD 0", 0);
        closed("HOLD 0, END, END", 0);
        closed("HOLD 0, END, END, TRY 0", 0);
        closed("HOLD 0, TRY 0, END", 0);
        closed("CALL 9, FAIL 7, MOVE 9 9 9", 1);
        HeldShelves x = new HeldShelves();
        Due.is("closed(5) without acts", x.closed(5), 1);
        Due.is("closed(-1)", x.closed(-1), HeldShelves.OUTSIDE);
        Due.is("closed(6)", x.closed(6), HeldShelves.OUTSIDE);
        Due.is("closed(FAR)", x.closed(FAR), HeldShelves.OUTSIDE);
    }

    private static void closed(String acts, int want) {
        Due.is("closed of " + acts, Due.with(acts).closed(0), want);
    }
}

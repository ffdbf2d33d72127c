import java.util.Random;

/** Promises 1 to 13: drawn calls, the same each time, beside the model that reads the document anew. */
public final class ModelTest {
    private static final int OBJECTS = 8000;
    /** No round begins behind so many calls: a round has 259 at most, an object is good for 512. */
    private static final int CALLS = 250;

    private final Random draw;
    private final HeldShelves x = new HeldShelves();
    private final Model model = new Model();
    private final int[] ends;
    private String name = "";

    private ModelTest(int seed, int[] ends) {
        draw = new Random(seed);
        this.ends = ends;
    }

    public static void main(String[] args) {
        int[] ends = new int[3];
        int most = 0;
        for (int seed = 0; seed < OBJECTS; seed++) {
            int before = Due.looked();
            new ModelTest(seed, ends).go(seed);
            most = Math.max(most, Due.looked() - before);
        }
        System.out.println("runs to the end " + ends[0] + ", failed " + ends[1] + ", stopped " + ends[2]);
        Due.isTrue("no object had more than 512 calls", most <= 512);
        for (int end : ends) {
            Due.isTrue("every kind of end was seen often", end > 2000);
        }
        Due.end();
    }

    private void go(int seed) {
        int before = Due.looked();
        for (int round = 0; Due.looked() - before < CALLS; round++) {
            name = "object " + seed + ", round " + round + ": ";
            changeShelf();
            changePlan();
            int changed = changePlan();
            anyCall();
            int steps = draw.nextBoolean() ? draw.nextInt(10) : draw.nextBoolean() ? draw.nextInt(65) : 64;
            run(draw.nextInt(3) > 0 ? changed : draw.nextInt(6), steps);
            compare();
        }
    }

    /** A number of a range; seldom one that is just outside of it, or far outside. */
    private int near(int from, int to) {
        int[] outside = {from - 1, to + 1, Due.FAR, Due.LOW};
        return draw.nextInt(12) == 0 ? outside[draw.nextInt(4)] : from + draw.nextInt(to - from + 1);
    }

    private void anyCall() {
        switch (draw.nextInt(9)) {
            case 0 -> act(near(0, 5), near(0, 9), near(0, 9), near(0, 9), near(0, 9));
            case 1 -> clear(near(0, 5));
            case 2 -> closed(near(0, 5));
            case 3 -> shelf(near(0, 7), near(-1, 1000));
            case 4 -> run(near(0, 5), near(0, 64));
            case 5 -> told(near(0, 7));
            case 6 -> caught(near(1, 9));
            case 7 -> about(near(0, 7), near(0, 1));
            default -> bounds(near(-1, 1001));
        }
    }

    private void changeShelf() {
        int[] some = {-1, 0, 5, 500, 995, 1000, draw.nextInt(1001), draw.nextInt(20)};
        shelf(draw.nextInt(8), some[draw.nextInt(some.length)]);
    }

    private int changePlan() {
        int plan = draw.nextInt(6);
        // Most drawn plans that are not closed would never be again.
        if (draw.nextInt(model.closed(plan) == 1 ? 4 : 2) == 0) {
            clear(plan);
        }
        addBlock(plan, 2);
        if (draw.nextInt(20) == 0) {
            add(plan, draw.nextInt(3), draw.nextInt(10));
        }
        return plan;
    }

    /** Acts whose blocks are closed, so that most plans can be run. */
    private void addBlock(int plan, int depth) {
        int acts = 1 + draw.nextInt(4);
        for (int i = 0; i < acts; i++) {
            if (depth > 0 && draw.nextInt(3) > 0) {
                boolean hold = draw.nextInt(3) > 0;
                add(plan, hold ? 0 : 1, hold ? someShelf() : draw.nextBoolean() ? 0 : draw.nextInt(10));
                addBlock(plan, depth - 1);
                add(plan, 2, 0);
            } else {
                addPlain(plan);
            }
        }
    }

    private void addPlain(int plan) {
        int kind = 3 + draw.nextInt(7);
        // What fails always ends most runs early, so it is drawn less often.
        if (kind == 7 && draw.nextInt(4) > 0) {
            kind = 8;
        }
        int a = kind == 7 ? 7 + draw.nextInt(3) : kind == 8 ? draw.nextInt(7) : someShelf();
        add(plan, kind, a);
    }

    private int someShelf() {
        return draw.nextInt(12) == 0 ? draw.nextInt(10) : draw.nextInt(2);
    }

    private void add(int plan, int kind, int a) {
        act(plan, kind, a, kind == 6 ? someShelf() : draw.nextInt(10), draw.nextInt(10));
    }

    private void compare() {
        for (int what = 0; what < 8; what++) {
            told(what);
        }
        for (int failure = 1; failure < 10; failure++) {
            caught(failure);
        }
        for (int shelf = 0; shelf < 8; shelf++) {
            about(shelf, 0);
            about(shelf, 1);
        }
        for (int plan = 0; plan < 6; plan++) {
            closed(plan);
        }
        bounds(draw.nextInt(1003) - 1);
        Due.is(name + "goods()", x.goods(), model.goods());
        if (draw.nextInt(3) == 0) {
            Due.is(name + "rest()", x.rest(), model.rest());
        }
    }

    private void act(int plan, int kind, int a, int b, int c) {
        Due.is(name + "act(" + plan + ", " + kind + ", " + a + ", " + b + ", " + c + ")",
                x.act(plan, kind, a, b, c), model.act(plan, kind, a, b, c));
    }

    private void clear(int plan) {
        Due.is(name + "clear(" + plan + ")", x.clear(plan), model.clear(plan));
    }

    private void closed(int plan) {
        Due.is(name + "closed(" + plan + ")", x.closed(plan), model.closed(plan));
    }

    private void shelf(int shelf, int goods) {
        Due.is(name + "shelf(" + shelf + ", " + goods + ")", x.shelf(shelf, goods), model.shelf(shelf, goods));
    }

    private void run(int plan, int steps) {
        int want = model.run(plan, steps);
        Due.is(name + "run(" + plan + ", " + steps + ")", x.run(plan, steps), want);
        if (want >= 0) {
            ends[want]++;
        }
    }

    private void told(int what) {
        Due.is(name + "told(" + what + ")", x.told(what), model.told(what));
    }

    private void caught(int failure) {
        Due.is(name + "caught(" + failure + ")", x.caught(failure), model.caught(failure));
    }

    private void about(int shelf, int what) {
        Due.is(name + "about(" + shelf + ", " + what + ")", x.about(shelf, what), model.about(shelf, what));
    }

    private void bounds(int bound) {
        Due.is(name + "first(" + bound + ")", x.first(bound), model.first(bound));
        Due.is(name + "row(" + bound + ")", x.row(bound), model.row(bound));
    }
}

import java.util.Random;

/** Promises 1 to 13: drawn calls, the same each time, beside the model that reads the document anew. */
public final class ModelTest {
    private static final int OBJECTS = 8000;
    /** No round begins behind so many calls: a round has 257 at most, an object is good for 512. */
    private static final int CALLS = 255;

    private final Random draw;
    private final HeldShelves x = new HeldShelves();
    private final Model model = new Model();

    private ModelTest(int seed) {
        draw = new Random(seed);
    }

    public static void main(String[] args) {
        int[] ends = new int[3];
        for (int seed = 0; seed < OBJECTS; seed++) {
            new ModelTest(seed).go(seed, ends);
        }
        System.out.println("runs to the end " + ends[0] + ", failed " + ends[1] + ", stopped " + ends[2]);
        for (int end : ends) {
            Due.isTrue("every kind of end was seen often", end > 2000);
        }
        Due.end();
    }

    private void go(int seed, int[] ends) {
        int before = Due.looked();
        for (int round = 0; Due.looked() - before < CALLS; round++) {
            String name = "object " + seed + ", round " + round;
            changeShelf(name);
            changePlan(name);
            int changed = changePlan(name);
            int plan = draw.nextInt(3) > 0 ? changed : draw.nextInt(6);
            int steps = draw.nextBoolean() ? draw.nextInt(10) : draw.nextBoolean() ? draw.nextInt(65) : 64;
            int want = model.run(plan, steps);
            Due.is(name + ": run(" + plan + ", " + steps + ")", x.run(plan, steps), want);
            if (want >= 0) {
                ends[want]++;
            }
            compare(name);
        }
    }

    private void changeShelf(String name) {
        int shelf = draw.nextInt(8);
        int[] some = {-1, 0, 5, 500, 995, 1000, draw.nextInt(1001), draw.nextInt(20)};
        int goods = some[draw.nextInt(some.length)];
        int had = model.goods[shelf] == null ? -4 : model.goods[shelf];
        Due.is(name + ": shelf(" + shelf + ", " + goods + ")", x.shelf(shelf, goods), had);
        model.goods[shelf] = goods < 0 ? null : Integer.valueOf(goods);
        model.left[shelf] = 0;
    }

    private int changePlan(String name) {
        int plan = draw.nextInt(6);
        // Most drawn plans that are not closed would never be again.
        if (draw.nextInt(model.closed(plan) ? 4 : 2) == 0) {
            Due.is(name + ": clear(" + plan + ")", x.clear(plan), model.plans.get(plan).size());
            model.plans.get(plan).clear();
        }
        addBlock(name, plan, 2);
        if (draw.nextInt(20) == 0) {
            add(name, plan, draw.nextInt(3), draw.nextInt(10));
        }
        return plan;
    }

    /** Acts whose blocks are closed, so that most plans can be run. */
    private void addBlock(String name, int plan, int depth) {
        int acts = 1 + draw.nextInt(4);
        for (int i = 0; i < acts; i++) {
            if (depth > 0 && draw.nextInt(3) > 0) {
                boolean hold = draw.nextInt(3) > 0;
                add(name, plan, hold ? 0 : 1, hold ? someShelf() : draw.nextBoolean() ? 0 : draw.nextInt(10));
                addBlock(name, plan, depth - 1);
                add(name, plan, 2, 0);
            } else {
                addPlain(name, plan);
            }
        }
    }

    private void addPlain(String name, int plan) {
        int kind = 3 + draw.nextInt(7);
        // What fails always ends most runs early, so it is drawn less often.
        if (kind == 7 && draw.nextInt(4) > 0) {
            kind = 8;
        }
        int a = kind == 7 ? 7 + draw.nextInt(3) : kind == 8 ? draw.nextInt(7) : someShelf();
        add(name, plan, kind, a);
    }

    private int someShelf() {
        return draw.nextInt(12) == 0 ? draw.nextInt(10) : draw.nextInt(2);
    }

    private void add(String name, int plan, int kind, int a) {
        int b = kind == 6 ? someShelf() : draw.nextInt(10);
        int c = draw.nextInt(10);
        int size = model.plans.get(plan).size();
        Due.is(name + ": act", x.act(plan, kind, a, b, c), size < 40 ? size : -2);
        if (size < 40) {
            model.plans.get(plan).add(new int[] {kind, a, b, c});
        }
    }

    private void compare(String name) {
        Due.told(name, x, model.told);
        for (int failure = 1; failure <= 9; failure++) {
            Due.is(name + ": caught(" + failure + ")", x.caught(failure), model.caught[failure]);
        }
        for (int shelf = 0; shelf < 8; shelf++) {
            boolean there = model.goods[shelf] != null;
            Due.shelf(name, x, shelf, there ? model.goods[shelf] : -3, there ? model.left[shelf] : -3);
        }
        for (int plan = 0; plan < 6; plan++) {
            Due.is(name + ": closed(" + plan + ")", x.closed(plan), model.closed(plan) ? 1 : 0);
        }
        int bound = draw.nextInt(1003) - 1;
        Due.is(name + ": first(" + bound + ")", x.first(bound), model.first(bound));
        Due.is(name + ": row(" + bound + ")", x.row(bound), model.row(bound));
        Due.is(name + ": goods()", x.goods(), model.inAll());
        if (draw.nextInt(3) == 0) {
            Due.is(name + ": rest()", x.rest(), model.rest);
            model.rest = 0;
        }
    }
}

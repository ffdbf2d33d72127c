import java.util.ArrayList;
import java.util.Arrays;
import java.util.List;

/**
 * The document read once more, in another way: a plan is done by recursion over its blocks, and a
 * failure or the stop is a Java exception. It has the whole face and takes any arguments.
 */
final class Model {
    private static final class Failure extends RuntimeException {
        private static final long serialVersionUID = 1L;
        final int kind;
        final int plan;
        final int act;

        Failure(int kind, int plan, int act) {
            super(null, null, false, false);
            this.kind = kind;
            this.plan = plan;
            this.act = act;
        }
    }

    private static final class Stop extends RuntimeException {
        private static final long serialVersionUID = 1L;
        final int plan;
        final int act;

        Stop(int plan, int act) {
            super(null, null, false, false);
            this.plan = plan;
            this.act = act;
        }
    }

    /** Those of a, b, c that each kind names. */
    private static final String[] NAMED = {"a", "a", "", "ab", "ab", "ab", "abc", "a", "a", ""};

    private final List<List<int[]>> plans = new ArrayList<>();
    private final Integer[] goods = {0, 0, 0, 0, null, null, null, null};
    private final int[] left = new int[8];
    private final int[] held = new int[8];
    private final int[] told = {0, -4, -4, 0, 0, 0, 0, 0};
    private final int[] caught = new int[10];
    private int rest = 0;
    private int steps;
    private int open;

    Model() {
        for (int plan = 0; plan < 6; plan++) {
            plans.add(new ArrayList<>());
        }
    }

    int act(int plan, int kind, int... numbers) {
        if (plan < 0 || plan > 5 || kind < 0 || kind > 9) {
            return -1;
        }
        for (int i = 0; i < NAMED[kind].length(); i++) {
            if (numbers[i] > 9 || numbers[i] < (kind == 7 ? 7 : 0)) {
                return -1;
            }
        }
        if (plans.get(plan).size() == 40) {
            return -2;
        }
        plans.get(plan).add(new int[] {kind, numbers[0], numbers[1], numbers[2]});
        return plans.get(plan).size() - 1;
    }

    int clear(int plan) {
        if (plan < 0 || plan > 5) {
            return -1;
        }
        int had = plans.get(plan).size();
        plans.get(plan).clear();
        return had;
    }

    int closed(int plan) {
        if (plan < 0 || plan > 5) {
            return -1;
        }
        return isClosed(plan) ? 1 : 0;
    }

    private boolean isClosed(int plan) {
        StringBuilder brackets = new StringBuilder();
        for (int[] act : plans.get(plan)) {
            brackets.append(act[0] < 2 ? "(" : act[0] == 2 ? ")" : "");
        }
        String text = brackets.toString();
        while (text.contains("()")) {
            text = text.replace("()", "");
        }
        return text.isEmpty();
    }

    int shelf(int shelf, int number) {
        if (shelf < 0 || shelf > 7 || number < -1 || number > 1000) {
            return -1;
        }
        int had = goods[shelf] == null ? -4 : goods[shelf];
        goods[shelf] = number == -1 ? null : Integer.valueOf(number);
        left[shelf] = 0;
        return had;
    }

    int run(int plan, int steps) {
        if (plan < 0 || plan > 5 || steps < 0 || steps > 64) {
            return -1;
        }
        if (!isClosed(plan)) {
            return -3;
        }
        Arrays.fill(told, 0);
        Arrays.fill(caught, 0);
        told[1] = -4;
        told[2] = -4;
        this.steps = steps;
        open = 0;
        try {
            doActs(plan, 0, plans.get(plan).size(), 1);
            return 0;
        } catch (Failure failure) {
            told[0] = failure.kind;
            told[1] = failure.plan;
            told[2] = failure.act;
            return 1;
        } catch (Stop stop) {
            told[1] = stop.plan;
            told[2] = stop.act;
            return 2;
        }
    }

    private void step(int plan, int act) {
        if (told[3] == steps) {
            throw new Stop(plan, act);
        }
        told[3]++;
    }

    private void doActs(int plan, int from, int to, int level) {
        int at = from;
        while (at < to) {
            int[] act = plans.get(plan).get(at);
            step(plan, at);
            if (act[0] < 2) {
                int end = endOf(plan, at);
                if (act[0] == 0) {
                    doHold(plan, at, end, level);
                } else {
                    doTry(plan, at, end, level);
                }
                at = end + 1;
            } else {
                doOne(plan, at, act, level);
                at++;
            }
        }
    }

    private int endOf(int plan, int begin) {
        int at = begin + 1;
        while (plans.get(plan).get(at)[0] != 2) {
            at = plans.get(plan).get(at)[0] < 2 ? endOf(plan, at) + 1 : at + 1;
        }
        return at;
    }

    private void doHold(int plan, int at, int end, int level) {
        int shelf = plans.get(plan).get(at)[1];
        need(shelf < 8, 1, plan, at);
        need(goods[shelf] != null, 2, plan, at);
        held[shelf]++;
        open++;
        told[4]++;
        told[5] = Math.max(told[5], open);
        boolean whole = false;
        try {
            doActs(plan, at + 1, end, level);
            step(plan, end);
            whole = true;
        } finally {
            held[shelf]--;
            open--;
            left[shelf] += whole ? 0 : 1;
        }
    }

    private void doTry(int plan, int at, int end, int level) {
        int guarded = plans.get(plan).get(at)[1];
        try {
            doActs(plan, at + 1, end, level);
            step(plan, end);
        } catch (Failure failure) {
            if (guarded != 0 && guarded != failure.kind) {
                throw failure;
            }
            told[6]++;
            caught[failure.kind]++;
        }
    }

    private void need(boolean holds, int failure, int plan, int act) {
        if (!holds) {
            throw new Failure(failure, plan, act);
        }
    }

    private void doOne(int plan, int at, int[] act, int level) {
        int a = act[1];
        int b = act[2];
        int c = act[3];
        if (act[0] >= 3 && act[0] <= 6) {
            need(a < 8 && (act[0] != 6 || b < 8), 1, plan, at);
            need(goods[a] != null && (act[0] != 6 || goods[b] != null), 2, plan, at);
            need(act[0] == 6 || held[a] > 0, 7, plan, at);
        }
        switch (act[0]) {
            case 3 -> {
                need(goods[a] + b <= 1000, 5, plan, at);
                goods[a] += b;
            }
            case 4 -> {
                need(goods[a] >= b, 4, plan, at);
                goods[a] -= b;
            }
            case 5 -> {
                need(b != 0, 3, plan, at);
                rest += goods[a] - goods[a] / b;
                goods[a] = goods[a] / b;
            }
            case 6 -> {
                need(goods[a] >= c, 4, plan, at);
                need(a == b || goods[b] + c <= 1000, 5, plan, at);
                goods[a] -= c;
                goods[b] += c;
            }
            case 7 -> throw new Failure(a, plan, at);
            case 8 -> {
                need(a < 6 && level < 5 && isClosed(a), 6, plan, at);
                told[7]++;
                doActs(a, 0, plans.get(a).size(), level + 1);
            }
            default -> { }
        }
    }

    int told(int what) {
        return what < 0 || what > 7 ? -1 : told[what];
    }

    int caught(int failure) {
        return failure < 1 || failure > 9 ? -1 : caught[failure];
    }

    int about(int shelf, int what) {
        if (shelf < 0 || shelf > 7 || what < 0 || what > 1) {
            return -1;
        }
        if (goods[shelf] == null) {
            return -3;
        }
        return what == 0 ? goods[shelf] : left[shelf];
    }

    int first(int least) {
        for (int shelf = 0; shelf < 8; shelf++) {
            if (goods[shelf] != null && goods[shelf] >= least) {
                return shelf;
            }
        }
        return -4;
    }

    int row(int most) {
        for (int shelf = 0; shelf < 8; shelf++) {
            if (goods[shelf] == null || goods[shelf] > most) {
                return shelf;
            }
        }
        return 8;
    }

    int rest() {
        int had = rest;
        rest = 0;
        return had;
    }

    int goods() {
        int sum = 0;
        for (Integer number : goods) {
            sum += number == null ? 0 : number;
        }
        return sum;
    }
}

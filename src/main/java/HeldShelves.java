/**
 * Shelves that are held while plans go on. The methods of the face look at their arguments and
 * answer; behind them stands the doing of a plan, which keeps all that is open (blocks and calls)
 * in one row, so that a failure or the stop leaves it from the inside outwards by one loop.
 */
public final class HeldShelves {
    public static final int OUTSIDE = -1, FULL = -2, STATE = -3, NONE = -4;

    private static final int PLANS = 6;
    private static final int MOST_ACTS = 40;
    private static final int SHELVES = 8;
    private static final int SHELVES_AT_FIRST = 4;
    private static final int MOST_GOODS = 1000;
    private static final int NOT_THERE = -1;
    private static final int MOST_STEPS = 64;
    private static final int MOST_LEVELS = 5;

    private static final int HOLD = 0;
    private static final int TRY = 1;
    private static final int END = 2;
    private static final int PUT = 3;
    private static final int TAKE = 4;
    private static final int SHARE = 5;
    private static final int MOVE = 6;
    private static final int FAIL = 7;
    private static final int CALL = 8;
    private static final int PASS = 9;

    /** How many of a, b, c each kind names, from a on. */
    private static final int[] NAMED = {1, 1, 0, 2, 2, 2, 3, 1, 1, 0};

    private static final int NO_FAILURE = 0;
    private static final int INDEX = 1;
    private static final int NOTHING = 2;
    private static final int ARITHMETIC = 3;
    private static final int SHORT = 4;
    private static final int OVER = 5;
    private static final int WRONG = 6;
    private static final int LOOSE = 7;
    private static final int LAST_FAILURE = 9;

    private static final int ANY_FAILURE = 0;

    private static final int RAN_TO_END = 0;
    private static final int FAILED = 1;
    private static final int STOPPED = 2;

    private final Plan[] plans;
    private final Stock stock;
    private final OpenRow open;
    private final Report report;

    /** Where the run is: the plan that is being done, its act to come, and how many plans deep. */
    private int planNow;
    private int next;
    private int level;

    public HeldShelves() {
        plans = new Plan[PLANS];
        for (int plan = 0; plan < PLANS; plan++) {
            plans[plan] = new Plan();
        }
        stock = new Stock();
        open = new OpenRow();
        report = new Report();
    }

    // ---- the face ----

    public int act(int plan, int kind, int a, int b, int c) {
        if (!isPlan(plan) || kind < HOLD || kind > PASS) {
            return OUTSIDE;
        }
        // What a kind does not name is not looked at, so it is put away as 0.
        int first = NAMED[kind] > 0 ? a : 0;
        int second = NAMED[kind] > 1 ? b : 0;
        int third = NAMED[kind] > 2 ? c : 0;
        if (!isDigit(first) || !isDigit(second) || !isDigit(third)) {
            return OUTSIDE;
        }
        if (kind == FAIL && first < LOOSE) {
            return OUTSIDE;
        }
        return plans[plan].add(kind, first, second, third);
    }

    public int clear(int plan) {
        return isPlan(plan) ? plans[plan].empty() : OUTSIDE;
    }

    public int closed(int plan) {
        if (!isPlan(plan)) {
            return OUTSIDE;
        }
        return plans[plan].isClosed() ? 1 : 0;
    }

    public int shelf(int shelf, int goods) {
        if (!isShelf(shelf) || goods < NOT_THERE || goods > MOST_GOODS) {
            return OUTSIDE;
        }
        return stock.replace(shelf, goods);
    }

    public int run(int plan, int steps) {
        if (!isPlan(plan) || steps < 0 || steps > MOST_STEPS) {
            return OUTSIDE;
        }
        if (!plans[plan].isClosed()) {
            return STATE;
        }
        report.reset();
        planNow = plan;
        next = 0;
        level = 1;
        return doActs(steps);
    }

    public int told(int what) {
        return report.number(what);
    }

    public int caught(int failure) {
        return report.timesCaught(failure);
    }

    public int about(int shelf, int what) {
        if (!isShelf(shelf) || what < 0 || what > 1) {
            return OUTSIDE;
        }
        if (!stock.isThere(shelf)) {
            return STATE;
        }
        return what == 0 ? stock.goodsOf(shelf) : stock.leftOf(shelf);
    }

    public int first(int least) {
        return stock.firstWith(least);
    }

    public int row(int most) {
        return stock.rowUpTo(most);
    }

    public int rest() {
        return stock.giveRest();
    }

    public int goods() {
        return stock.inAll();
    }

    // ---- the doing of a plan ----

    private int doActs(int steps) {
        // A turn is a step or the end of a called plan; each call is a step, so there are no
        // more such ends than steps, and one turn more finds the end of the run.
        for (int turn = 0; turn <= 2 * MOST_STEPS; turn++) {
            if (!isPlan(planNow) || next >= plans[planNow].size()) {
                if (level <= 1) {
                    return RAN_TO_END;
                }
                leaveCall();
            } else if (report.steps() >= steps) {
                return stop();
            } else if (!doStep()) {
                return FAILED;
            }
        }
        return RAN_TO_END;
    }

    private int stop() {
        report.endAt(NO_FAILURE, planNow, next);
        leaveOpen(NO_FAILURE);
        return STOPPED;
    }

    /** Does the act to come: whether the run goes on. */
    private boolean doStep() {
        int plan = planNow;
        int act = next;
        next++;
        report.countStep();
        int failure = doAct(plans[plan], act);
        if (failure == NO_FAILURE || leaveOpen(failure)) {
            return true;
        }
        report.endAt(failure, plan, act);
        return false;
    }

    /** The failure of an act by itself, which has done nothing then. */
    private int doAct(Plan plan, int act) {
        int a = plan.aOf(act);
        int b = plan.bOf(act);
        switch (plan.kindOf(act)) {
            case HOLD:
                return hold(a);
            case TRY:
                open.push(TRY, a, plan.behindBlock(act));
                return NO_FAILURE;
            case END:
                return endBlock();
            case PUT:
                return stock.put(a, b);
            case TAKE:
                return stock.take(a, b);
            case SHARE:
                return stock.share(a, b);
            case MOVE:
                return stock.move(a, b, plan.cOf(act));
            case FAIL:
                return a;
            case CALL:
                return call(a);
            default:
                return NO_FAILURE;
        }
    }

    private int hold(int shelf) {
        int failure = stock.missing(shelf);
        if (failure != NO_FAILURE) {
            return failure;
        }
        stock.holdOnce(shelf);
        report.openHold();
        open.push(HOLD, shelf, 0);
        return NO_FAILURE;
    }

    private int endBlock() {
        if (open.kind() == HOLD) {
            report.closeHold();
            stock.release(open.number());
        }
        open.pop();
        return NO_FAILURE;
    }

    private int call(int plan) {
        if (!isPlan(plan) || level >= MOST_LEVELS || !plans[plan].isClosed()) {
            return WRONG;
        }
        report.countCall();
        open.push(CALL, planNow, next);
        planNow = plan;
        next = 0;
        level++;
        return NO_FAILURE;
    }

    private void leaveCall() {
        planNow = open.number();
        next = open.behind();
        level--;
        open.pop();
    }

    /**
     * Leaves what is open, from the inside outwards, up to a guard that catches the failure:
     * whether there was one. The stop comes as NO_FAILURE, which no guard catches.
     */
    private boolean leaveOpen(int failure) {
        for (int count = open.size(); count > 0; count--) {
            int kind = open.kind();
            if (kind == CALL) {
                leaveCall();
            } else if (kind == HOLD) {
                leaveHold();
            } else if (leaveGuard(failure)) {
                return true;
            }
        }
        return false;
    }

    private void leaveHold() {
        stock.countLeft(open.number());
        endBlock();
    }

    private boolean leaveGuard(int failure) {
        int guarded = open.number();
        int behind = open.behind();
        open.pop();
        if (failure == NO_FAILURE || (guarded != ANY_FAILURE && guarded != failure)) {
            return false;
        }
        report.countCaught(failure);
        next = behind;
        return true;
    }

    private static boolean isPlan(int plan) {
        return plan >= 0 && plan < PLANS;
    }

    private static boolean isShelf(int shelf) {
        return shelf >= 0 && shelf < SHELVES;
    }

    private static boolean isDigit(int number) {
        return number >= 0 && number <= 9;
    }

    /** A row of acts. An act is one number of four digits (kind, a, b, c): so the row stays small. */
    private static final class Plan {
        private final int[] acts;
        private int count;

        Plan() {
            acts = new int[MOST_ACTS];
        }

        int size() {
            return count;
        }

        int add(int kind, int a, int b, int c) {
            if (count >= MOST_ACTS) {
                return FULL;
            }
            acts[count] = kind * 1000 + a * 100 + b * 10 + c;
            count++;
            return count - 1;
        }

        int empty() {
            int had = count;
            count = 0;
            return had;
        }

        int kindOf(int act) {
            return act >= 0 && act < count ? acts[act] / 1000 : PASS;
        }

        int aOf(int act) {
            return digitsOf(act) / 100 % 10;
        }

        int bOf(int act) {
            return digitsOf(act) / 10 % 10;
        }

        int cOf(int act) {
            return digitsOf(act) % 10;
        }

        private int digitsOf(int act) {
            return act >= 0 && act < count ? acts[act] : 0;
        }

        boolean isClosed() {
            int depth = 0;
            for (int act = 0; act < count; act++) {
                depth += deeperBy(act);
                if (depth < 0) {
                    return false;
                }
            }
            return depth == 0;
        }

        /** The number behind the END of the block that begins at an act. */
        int behindBlock(int begin) {
            int depth = 0;
            for (int act = begin; act < count; act++) {
                depth += deeperBy(act);
                if (depth <= 0) {
                    return act + 1;
                }
            }
            return count;
        }

        private int deeperBy(int act) {
            int kind = kindOf(act);
            if (kind == HOLD || kind == TRY) {
                return 1;
            }
            return kind == END ? -1 : 0;
        }
    }

    /** The shelves, what is on them, and THE REST. What an act asks of them answers its failure. */
    private static final class Stock {
        private final int[] goods;
        private final int[] left;
        private final int[] held;
        private int rest;

        Stock() {
            goods = new int[SHELVES];
            left = new int[SHELVES];
            held = new int[SHELVES];
            for (int shelf = SHELVES_AT_FIRST; shelf < SHELVES; shelf++) {
                goods[shelf] = NOT_THERE;
            }
        }

        boolean isThere(int shelf) {
            return isShelf(shelf) && goods[shelf] != NOT_THERE;
        }

        int goodsOf(int shelf) {
            return isThere(shelf) ? goods[shelf] : 0;
        }

        int leftOf(int shelf) {
            return isThere(shelf) ? left[shelf] : 0;
        }

        int replace(int shelf, int number) {
            if (!isShelf(shelf)) {
                return OUTSIDE;
            }
            int had = isThere(shelf) ? goods[shelf] : NONE;
            goods[shelf] = number;
            left[shelf] = 0;
            return had;
        }

        int firstWith(int least) {
            for (int shelf = 0; shelf < SHELVES; shelf++) {
                if (isThere(shelf) && goods[shelf] >= least) {
                    return shelf;
                }
            }
            return NONE;
        }

        int rowUpTo(int most) {
            int shelf = 0;
            while (shelf < SHELVES && isThere(shelf) && goods[shelf] <= most) {
                shelf++;
            }
            return shelf;
        }

        int giveRest() {
            int given = rest;
            rest = 0;
            return given;
        }

        int inAll() {
            int sum = 0;
            for (int shelf = 0; shelf < SHELVES; shelf++) {
                sum += goodsOf(shelf);
            }
            return sum;
        }

        int missing(int shelf) {
            if (!isShelf(shelf)) {
                return INDEX;
            }
            return goods[shelf] != NOT_THERE ? NO_FAILURE : NOTHING;
        }

        void holdOnce(int shelf) {
            if (isShelf(shelf)) {
                held[shelf]++;
            }
        }

        void release(int shelf) {
            if (isShelf(shelf)) {
                held[shelf]--;
            }
        }

        void countLeft(int shelf) {
            if (isShelf(shelf)) {
                left[shelf]++;
            }
        }

        int put(int shelf, int number) {
            int failure = missingOrLoose(shelf);
            if (failure != NO_FAILURE) {
                return failure;
            }
            if (goods[shelf] + number > MOST_GOODS) {
                return OVER;
            }
            goods[shelf] += number;
            return NO_FAILURE;
        }

        int take(int shelf, int number) {
            int failure = missingOrLoose(shelf);
            if (failure != NO_FAILURE) {
                return failure;
            }
            if (number > goods[shelf]) {
                return SHORT;
            }
            goods[shelf] -= number;
            return NO_FAILURE;
        }

        int share(int shelf, int among) {
            int failure = missingOrLoose(shelf);
            if (failure != NO_FAILURE) {
                return failure;
            }
            if (among == 0) {
                return ARITHMETIC;
            }
            int each = goods[shelf] / among;
            rest += goods[shelf] - each;
            goods[shelf] = each;
            return NO_FAILURE;
        }

        /** Its own holds last no longer than this call, so that nothing could see them. */
        int move(int from, int to, int number) {
            if (!isShelf(from) || !isShelf(to)) {
                return INDEX;
            }
            if (!isThere(from) || !isThere(to)) {
                return NOTHING;
            }
            if (number > goods[from]) {
                return SHORT;
            }
            if (from != to && goods[to] + number > MOST_GOODS) {
                return OVER;
            }
            goods[from] -= number;
            goods[to] += number;
            return NO_FAILURE;
        }

        private int missingOrLoose(int shelf) {
            int failure = missing(shelf);
            if (failure != NO_FAILURE) {
                return failure;
            }
            return held[shelf] > 0 ? NO_FAILURE : LOOSE;
        }
    }

    /**
     * What is open in a run, the innermost last: a HOLD with its shelf, a TRY with the failure
     * that it guards and the act behind its block, a CALL with the plan and the act to go back to.
     * Each took a step, so there are never more than steps.
     */
    private static final class OpenRow {
        private final int[] kinds;
        private final int[] numbers;
        private final int[] behinds;
        private int count;

        OpenRow() {
            kinds = new int[MOST_STEPS];
            numbers = new int[MOST_STEPS];
            behinds = new int[MOST_STEPS];
        }

        int size() {
            return count;
        }

        void push(int kind, int number, int behind) {
            if (count < MOST_STEPS) {
                kinds[count] = kind;
                numbers[count] = number;
                behinds[count] = behind;
                count++;
            }
        }

        void pop() {
            if (count > 0) {
                count--;
            }
        }

        int kind() {
            return count > 0 ? kinds[count - 1] : PASS;
        }

        int number() {
            return count > 0 ? numbers[count - 1] : 0;
        }

        int behind() {
            return count > 0 ? behinds[count - 1] : 0;
        }
    }

    /** What is told of the latest run. */
    private static final class Report {
        private final int[] caughtOf;
        private int caughtInAll;
        private int failure;
        private int plan;
        private int act;
        private int steps;
        private int holds;
        private int holdsOpen;
        private int mostOpen;
        private int calls;

        Report() {
            caughtOf = new int[LAST_FAILURE + 1];
            plan = NONE;
            act = NONE;
        }

        void reset() {
            for (int kind = 0; kind <= LAST_FAILURE; kind++) {
                caughtOf[kind] = 0;
            }
            caughtInAll = 0;
            endAt(NO_FAILURE, NONE, NONE);
            steps = 0;
            holds = 0;
            holdsOpen = 0;
            mostOpen = 0;
            calls = 0;
        }

        void endAt(int endFailure, int endPlan, int endAct) {
            failure = endFailure;
            plan = endPlan;
            act = endAct;
        }

        int steps() {
            return steps;
        }

        void countStep() {
            steps++;
        }

        void countCall() {
            calls++;
        }

        void openHold() {
            holds++;
            holdsOpen++;
            mostOpen = Math.max(mostOpen, holdsOpen);
        }

        void closeHold() {
            holdsOpen--;
        }

        void countCaught(int kind) {
            if (kind > NO_FAILURE && kind <= LAST_FAILURE) {
                caughtOf[kind]++;
                caughtInAll++;
            }
        }

        int timesCaught(int kind) {
            return kind > NO_FAILURE && kind <= LAST_FAILURE ? caughtOf[kind] : OUTSIDE;
        }

        int number(int what) {
            switch (what) {
                case 0:
                    return failure;
                case 1:
                    return plan;
                case 2:
                    return act;
                case 3:
                    return steps;
                case 4:
                    return holds;
                case 5:
                    return mostOpen;
                case 6:
                    return caughtInAll;
                case 7:
                    return calls;
                default:
                    return OUTSIDE;
            }
        }
    }
}

import java.util.List;

/** What the tests share: answers that are due, and plans written as words. */
final class Due {
    /** Numbers far outside every bound of the document, on either side. */
    static final int FAR = Integer.MAX_VALUE;
    static final int LOW = Integer.MIN_VALUE;

    private static final List<String> KINDS = List.of(
            "HOLD", "TRY", "END", "PUT", "TAKE", "SHARE", "MOVE", "FAIL", "CALL", "PASS");

    private static int looked = 0;
    private static int wrong = 0;

    private Due() {
    }

    static void is(String call, int got, int want) {
        looked++;
        if (got != want) {
            wrong++;
            System.out.println(call + " answered " + got + ", due is " + want);
        }
    }

    /** How many answers were looked at so far. */
    static int looked() {
        return looked;
    }

    static void isTrue(String what, boolean holds) {
        is(what, holds ? 1 : 0, 1);
    }

    /** Writes acts such as "HOLD 1, PUT 1 5, END" behind those that a plan has. */
    static void plan(HeldShelves x, int plan, String acts) {
        for (String act : acts.split(", ")) {
            String[] words = act.split(" ");
            int[] numbers = new int[3];
            for (int i = 1; i < words.length; i++) {
                numbers[i - 1] = Integer.parseInt(words[i]);
            }
            int kind = KINDS.indexOf(words[0]);
            isTrue(act + " is added", x.act(plan, kind, numbers[0], numbers[1], numbers[2]) >= 0);
        }
    }

    /** A new object whose plan 0 has these acts. */
    static HeldShelves with(String acts) {
        HeldShelves x = new HeldShelves();
        plan(x, 0, acts);
        return x;
    }

    /** Runs plan 0 and looks at the answer and at what is told: as many numbers as are given. */
    static void run(String name, HeldShelves x, int steps, int want, int... wants) {
        is(name + ": run(0, " + steps + ")", x.run(0, steps), want);
        told(name, x, wants);
    }

    static void told(String name, HeldShelves x, int... wants) {
        for (int what = 0; what < wants.length; what++) {
            is(name + ": told(" + what + ")", x.told(what), wants[what]);
        }
    }

    static void caught(String name, HeldShelves x, int... wants) {
        for (int failure = 1; failure <= wants.length; failure++) {
            is(name + ": caught(" + failure + ")", x.caught(failure), wants[failure - 1]);
        }
    }

    /** GOODS and LEFT of a shelf. */
    static void shelf(String name, HeldShelves x, int shelf, int goods, int left) {
        is(name + ": about(" + shelf + ", 0)", x.about(shelf, 0), goods);
        is(name + ": about(" + shelf + ", 1)", x.about(shelf, 1), left);
    }

    static void end() {
        System.out.println(looked + " answers looked at, " + wrong + " not as due");
        if (wrong != 0 || looked == 0) {
            System.exit(1);
        }
    }
}

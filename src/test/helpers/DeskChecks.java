/** What the tests of SafeDesk share: its numbers by name, and checks that tell the sentence they belong to. */
abstract class DeskChecks {
    static final int MIN = Integer.MIN_VALUE, MAX = Integer.MAX_VALUE;
    static final int BAD = -1, FULL = -2;
    static final int ENTER = 0, TRY = 1, PUT = 2, WORTH = 3, GIVE = 4, GET = 5, EMPTY = 6, DEPTH = 7,
        DIVIDE = 8, FAIL = 9, BACK = 10, ADD = 11, DO = 12, SEEK = 13;
    static final int KIND = 0, COINS = 1, TURN = 2, ENTRIES = 3, DEEP = 4, MOST = 5;
    static final int SAFE = 0, TIMED = 1, VAULT = 2;
    static final int MOST_COINS = 1000000;
    /** What a run answers; an own failure (20 .. 23) is written as a number. */
    static final int DONE = 1, NULL = -11, DIVISION = -16, PLANS = -17, SHORT = -40, SPENT = -50;

    private static int wrong = 0;
    private static String sentence = "";

    /** The promise or term, and the document's own words there, that the checks from here on belong to. */
    static void says(String place, String words) {
        sentence = place + " \"" + words + "\": ";
    }

    static void due(String what, int want, int got) {
        if (got != want) {
            tell(what + " answered " + got + ", due is " + want);
        }
    }

    static void alike(String what, String want, String got) {
        if (!got.equals(want)) {
            tell(what + " differs:\n  " + got + ", due is\n  " + want);
        }
    }

    private static void tell(String fault) {
        wrong++;
        System.out.println(sentence + fault);
    }

    static void end() {
        System.out.println(wrong == 0 ? "all answers are as due" : wrong + " answers are not as due");
        if (wrong != 0) {
            System.exit(1);
        }
    }

    /** A desk whose plan 0 has these steps: kind, a, b; kind, a, b; .. */
    static SafeDesk planned(int... steps) {
        SafeDesk x = new SafeDesk();
        plan(x, 0, steps);
        return x;
    }

    static void plan(SafeDesk x, int plan, int... steps) {
        x.clear(plan);
        add(x, plan, steps);
    }

    static void add(SafeDesk x, int plan, int... steps) {
        int had = x.count(4 + plan);
        for (int i = 0; i < steps.length; i += 3) {
            due("step " + i / 3 + " of plan " + plan, had + i / 3 + 1,
                x.step(plan, steps[i], steps[i + 1], steps[i + 2]));
        }
    }

    /** A plan that has one step several times. */
    static void planOf(SafeDesk x, int plan, int times, int kind, int a) {
        x.clear(plan);
        for (int i = 0; i < times; i++) {
            add(x, plan, kind, a, 0);
        }
    }

    static void traceIs(String what, SafeDesk x, int... want) {
        due(what + ": trace(-1)", want.length, x.trace(-1));
        for (int k = 0; k < want.length; k++) {
            due(what + ": trace(" + k + ")", want[k], x.trace(k));
        }
        due(what + ": trace behind its end", BAD, x.trace(want.length));
    }

    /** KIND, COINS, TURN, ENTRIES, DEPTH, MOST. */
    static void safeIs(String what, SafeDesk x, int room, int... want) {
        for (int i = 0; i < 6; i++) {
            due(what + ": told(" + room + ", " + i + ")", want[i], x.told(room, i));
        }
    }

    static void runIs(String what, SafeDesk x, int value, int wantAnswer, int wantValue) {
        due(what + ": run", wantAnswer, x.run(0, value));
        due(what + ": value", wantValue, x.value());
        due(what + ": count(1)", wantAnswer == 1 ? 0 : -10 - wantAnswer, x.count(1));
    }

    /** All that a desk tells without being changed, in some 100 calls and one for each number of its trace. */
    static String state(SafeDesk x) {
        StringBuilder all = new StringBuilder("value ").append(x.value()).append(" trace");
        int traced = x.trace(-1);
        for (int k = 0; k < traced; k++) {
            all.append(' ').append(x.trace(k));
        }
        all.append(" counts");
        for (int what = 0; what < 10; what++) {
            all.append(' ').append(x.count(what));
        }
        for (int room = 0; room < 8; room++) {
            all.append(" room ").append(room);
            for (int what = 0; what < 6; what++) {
                all.append(' ').append(x.told(room, what));
            }
            for (int other = room + 1; other < 8; other++) {
                all.append(x.same(room, other) == 1 ? " =" + other : "");
            }
        }
        return all.toString();
    }
}

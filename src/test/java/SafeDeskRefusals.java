import java.util.function.ToIntFunction;

/** Each answer BAD and FULL: the numbers next to what is allowed, the ends of int, and that nothing changes. */
public final class SafeDeskRefusals extends DeskChecks {
    private static final String CHANGE_NOTHING =
        "BAD -1: there is no such thing, or a number is not as told; FULL -2: they change nothing.";
    private static final int[] NO_ROOM = {MIN, -1, 8, MAX};
    private static final int[] NO_PLAN = {MIN, -1, 6, MAX};
    private static final int[] ROOM_KINDS = {ENTER, PUT, WORTH, GIVE, GET, EMPTY, DEPTH, SEEK};

    /** A desk with something of everything: plan 0 is full and does all the others. */
    private static SafeDesk busyDesk() {
        SafeDesk x = new SafeDesk();
        x.safe(0, SAFE, 40);
        x.safe(1, TIMED, 50);
        x.share(1, 2);
        x.safe(7, VAULT, 600);
        plan(x, 0, ADD, 1, 0, TRY, 0, 1, DO, 1, 0, TRY, 0, 1, DO, 2, 0, DO, 3, 0, DO, 4, 0, ENTER, 7, 2, PUT, 7, 3,
            WORTH, 7, 0, TRY, 0, 1, DO, 5, 0);
        plan(x, 1, ENTER, 0, 2, PUT, 0, 2, FAIL, 21, 0);
        plan(x, 2, PUT, 1, 4, BACK, 9, 0);
        plan(x, 4, GIVE, 7, 1);
        plan(x, 5, DIVIDE, 0, 0);
        x.run(0, 5);
        x.run(1, 6);
        return x;
    }

    private static void refused(String call, int want, ToIntFunction<SafeDesk> asked) {
        SafeDesk x = busyDesk();
        SafeDesk untouched = busyDesk();
        due(call, want, asked.applyAsInt(x));
        alike("the desk behind " + call, state(untouched), state(x));
        x.run(0, 77);
        untouched.run(0, 77);
        alike("a run behind " + call, state(untouched), state(x));
    }

    private static void safeIsBad() {
        says("2 safe", "BAD: also COINS below 0, or above 1000000.");
        for (int room : NO_ROOM) {
            refused("safe(" + room + ", 0, 1)", BAD, x -> x.safe(room, SAFE, 1));
        }
        for (int kind : new int[] {MIN, -1, 3, MAX}) {
            refused("safe(0, " + kind + ", 1)", BAD, x -> x.safe(0, kind, 1));
            refused("safe(3, " + kind + ", 1)", BAD, x -> x.safe(3, kind, 1));
        }
        for (int coins : new int[] {MIN, -1, MOST_COINS + 1, MAX}) {
            refused("safe(0, 0, " + coins + ")", BAD, x -> x.safe(0, SAFE, coins));
            refused("safe(3, 2, " + coins + ")", BAD, x -> x.safe(3, VAULT, coins));
        }
        refused("safe(8, 3, -1)", BAD, x -> x.safe(8, 3, -1));
    }

    private static void shareAndSameAreBad() {
        for (int room : NO_ROOM) {
            says("3 share", "ROOM to gets what ROOM from has, or none: 1, 0. BAD.");
            refused("share(" + room + ", 0)", BAD, x -> x.share(room, 0));
            refused("share(0, " + room + ")", BAD, x -> x.share(0, room));
            refused("share(3, " + room + ")", BAD, x -> x.share(3, room));
            refused("share(" + room + ", " + room + ")", BAD, x -> x.share(room, room));
            says("4 same", "Whether two ROOMS have the same SAFE, or none both: 1, 0. BAD.");
            refused("same(" + room + ", 0)", BAD, x -> x.same(room, 0));
            refused("same(0, " + room + ")", BAD, x -> x.same(0, room));
            refused("same(3, " + room + ")", BAD, x -> x.same(3, room));
            refused("same(" + room + ", " + room + ")", BAD, x -> x.same(room, room));
        }
    }

    private static void stepRefused(int want, int plan, int kind, int a, int b) {
        refused("step(" + plan + ", " + kind + ", " + a + ", " + b + ")", want, x -> x.step(plan, kind, a, b));
    }

    private static void stepIsBad() {
        says("5 step", "BAD: kind 0 .. 13");
        for (int kind : new int[] {MIN, -1, 14, MAX}) {
            stepRefused(BAD, 3, kind, 0, 1);
        }
        says("5 step, BAD", "a of 0, 2 to 7, 13 is no ROOM");
        for (int kind : ROOM_KINDS) {
            for (int room : NO_ROOM) {
                stepRefused(BAD, 3, kind, room, 1);
            }
        }
        says("5 step, BAD", "of 1 is not 0, 1, 6, 7, 20 .. 23, 30");
        for (int a : new int[] {MIN, -1, 2, 5, 8, 19, 24, 29, 31, 39, 40, 41, MAX}) {
            stepRefused(BAD, 3, TRY, a, 1);
        }
        says("5 step, BAD", "of 9 not 20 .. 23");
        for (int a : new int[] {MIN, -1, 0, 1, 19, 24, 30, 40, MAX}) {
            stepRefused(BAD, 3, FAIL, a, 1);
        }
        says("5 step, BAD", "of 12 no PLAN");
        for (int plan : NO_PLAN) {
            stepRefused(BAD, 3, DO, plan, 1);
        }
        says("5 step, BAD", "b of 0, 1 not 1 .. 11");
        for (int b : new int[] {MIN, -1, 0, 12, MAX}) {
            stepRefused(BAD, 3, ENTER, 0, b);
            stepRefused(BAD, 3, TRY, 0, b);
        }
        says("PLANS", "PLANS 0 .. 5 have up to 12 STEPS");
        for (int plan : NO_PLAN) {
            stepRefused(BAD, plan, ADD, 1, 0);
        }
    }

    private static void stepIsFull() {
        says("5 step, FULL", "PLANS 0 .. 5 have up to 12 STEPS");
        for (int kind = 0; kind <= 13; kind++) {
            int a = kind == FAIL ? 20 : 0;
            stepRefused(FULL, 0, kind, a, 1);
        }
        says("5 step, BAD of a PLAN that is FULL", "b of 0, 1 not 1 .. 11; FULL.");
        stepRefused(BAD, 0, 14, 0, 1);
        stepRefused(BAD, 0, ENTER, 8, 1);
        stepRefused(BAD, 0, TRY, 40, 1);
        stepRefused(BAD, 0, ENTER, 0, 12);
    }

    private static void plansAreBad() {
        for (int plan : NO_PLAN) {
            says("6 clear", "A PLAN has no STEPS: how many it had. BAD.");
            refused("clear(" + plan + ")", BAD, x -> x.clear(plan));
            says("7 run", "A RUN: 1, or -10 less the FAILURE. BAD.");
            refused("run(" + plan + ", 88)", BAD, x -> x.run(plan, 88));
        }
    }

    private static void readsAreBad() {
        says("9 trace", "k -1 how many numbers, else its k-th. BAD.");
        int traced = busyDesk().trace(-1);
        for (int k : new int[] {MIN, -2, traced, traced + 1, 119, 120, 121, MAX}) {
            refused("trace(" + k + ")", BAD, x -> x.trace(k));
        }
        says("10 told",
            "what = 0 KIND, 1 COINS, 2 TURN, 3 ENTRIES, 4 DEPTH, 5 MOST. BAD: also a ROOM without one.");
        for (int what : new int[] {MIN, -1, 6, MAX}) {
            refused("told(0, " + what + ")", BAD, x -> x.told(0, what));
            refused("told(3, " + what + ")", BAD, x -> x.told(3, what));
        }
        for (int what = 0; what <= 5; what++) {
            int asked = what;
            refused("told(3, " + what + ")", BAD, x -> x.told(3, asked));
            for (int room : NO_ROOM) {
                refused("told(" + room + ", " + what + ")", BAD, x -> x.told(room, asked));
            }
        }
        says("11 count", "of PLAN what - 4: how many STEPS (4 .. 9). BAD.");
        for (int what : new int[] {MIN, MIN + 3, MIN + 4, -1, 10, MAX}) {
            refused("count(" + what + ")", BAD, x -> x.count(what));
        }
    }

    private static void theDeskTellsChanges() {
        says("BAD and FULL", CHANGE_NOTHING);
        String before = state(busyDesk());
        SafeDesk x = busyDesk();
        x.safe(7, VAULT, 600);
        due("a change of room 7 is seen", 0, state(x).equals(before) ? 1 : 0);
        SafeDesk y = busyDesk();
        y.step(3, ADD, 0, 0);
        due("a change of plan 3 is seen", 0, state(y).equals(before) ? 1 : 0);
        due("BAD", -1, SafeDesk.BAD);
        due("FULL", -2, SafeDesk.FULL);
    }

    public static void main(String[] args) {
        theDeskTellsChanges();
        safeIsBad();
        shareAndSameAreBad();
        stepIsBad();
        stepIsFull();
        plansAreBad();
        readsAreBad();
        end();
    }
}

/** Safes in rooms, and plans of steps that are done inside of them. */
public final class SafeDesk {
    public static final int BAD = -1, FULL = -2;

    private static final int ROOMS = 8;
    private static final int PLANS = 6;
    private static final int PLAN_STEPS = 12;
    private static final int BLOCK_STEPS = 11;
    private static final int RUN_STEPS = 200;
    private static final int PLANS_AT_WORK = 4;
    private static final int TRACE_NUMBERS = 120;
    private static final int MOST_COINS = 1000000;

    private static final int KIND_SAFE = 0;
    private static final int KIND_TIMED = 1;
    private static final int KIND_VAULT = 2;

    private static final int STEP_ENTER = 0;
    private static final int STEP_TRY = 1;
    private static final int STEP_PUT = 2;
    private static final int STEP_WORTH = 3;
    private static final int STEP_GIVE = 4;
    private static final int STEP_GET = 5;
    private static final int STEP_EMPTY = 6;
    private static final int STEP_DEPTH = 7;
    private static final int STEP_DIVIDE = 8;
    private static final int STEP_FAIL = 9;
    private static final int STEP_BACK = 10;
    private static final int STEP_ADD = 11;
    private static final int STEP_DO = 12;
    private static final int STEP_SEEK = 13;

    private static final int TRACE_ENTERED = 1;
    private static final int TRACE_LEFT = 2;
    private static final int TRACE_STEP = 100;

    // How a step ends: DONE, BACK, or the number of a failure (all above 0).
    private static final int DONE = 0;
    private static final int BACK = -1;
    private static final int FAILURE_NULL = 1;
    private static final int FAILURE_DIVISION = 6;
    private static final int FAILURE_PLANS = 7;
    private static final int FAILURE_FIRST_OWN = 20;
    private static final int FAILURE_LAST_OWN = 23;
    private static final int FAILURE_SHORT = 30;
    private static final int FAILURE_SPENT = 40;
    private static final int ANY_FAILURE = 0;

    private final Safe[] rooms = new Safe[ROOMS];
    private final Plan[] plans = new Plan[PLANS];
    private final int[] traceNumbers = new int[TRACE_NUMBERS];
    private int traced;
    private int valueNow;
    private int begun;
    private int failure;
    private int plansAtWork;
    private int mostPlansAtWork;

    public SafeDesk() {
        for (int plan = 0; plan < PLANS; plan++) {
            plans[plan] = new Plan();
        }
    }

    public int safe(int room, int kind, int coins) {
        if (!isRoom(room) || kind < KIND_SAFE || kind > KIND_VAULT || coins < 0 || coins > MOST_COINS) {
            return BAD;
        }
        rooms[room] = newSafe(kind, coins);
        return 1;
    }

    public int share(int from, int to) {
        if (!isRoom(from) || !isRoom(to)) {
            return BAD;
        }
        rooms[to] = rooms[from];
        return rooms[to] == null ? 0 : 1;
    }

    public int same(int room, int other) {
        if (!isRoom(room) || !isRoom(other)) {
            return BAD;
        }
        return rooms[room] == rooms[other] ? 1 : 0;
    }

    public int step(int plan, int kind, int a, int b) {
        if (!isPlan(plan) || !isStep(kind, a, b)) {
            return BAD;
        }
        Plan grown = plans[plan];
        if (grown.size >= PLAN_STEPS) {
            return FULL;
        }
        grown.add(kind, a, b);
        return grown.size;
    }

    public int clear(int plan) {
        if (!isPlan(plan)) {
            return BAD;
        }
        int had = plans[plan].size;
        plans[plan].size = 0;
        return had;
    }

    public int run(int plan, int value) {
        if (!isPlan(plan)) {
            return BAD;
        }
        valueNow = value;
        begun = 0;
        traced = 0;
        mostPlansAtWork = 0;
        failure = doPlan(plan);
        return failure == DONE ? 1 : -10 - failure;
    }

    public int value() {
        return valueNow;
    }

    public int trace(int k) {
        if (k == -1) {
            return traced;
        }
        return k >= 0 && k < traced ? traceNumbers[k] : BAD;
    }

    public int told(int room, int what) {
        Safe safe = safeIn(room);
        if (safe == null) {
            return BAD;
        }
        switch (what) {
            case 0: return safe.kind;
            case 1: return safe.coins;
            case 2: return safe.turn;
            case 3: return safe.entries;
            case 4: return safe.depth;
            case 5: return safe.most;
            default: return BAD;
        }
    }

    public int count(int what) {
        switch (what) {
            case 0: return begun;
            case 1: return failure;
            case 2: return mostPlansAtWork;
            case 3: return roomsWithSafe();
            default: return what >= 4 && isPlan(what - 4) ? plans[what - 4].size : BAD;
        }
    }

    private static boolean isRoom(int room) {
        return room >= 0 && room < ROOMS;
    }

    private static boolean isPlan(int plan) {
        return plan >= 0 && plan < PLANS;
    }

    private static boolean isBlock(int steps) {
        return steps >= 1 && steps <= BLOCK_STEPS;
    }

    private static boolean isOwnFailure(int number) {
        return number >= FAILURE_FIRST_OWN && number <= FAILURE_LAST_OWN;
    }

    private static boolean canBeHeld(int number) {
        return number == ANY_FAILURE || number == FAILURE_NULL || number == FAILURE_DIVISION
            || number == FAILURE_PLANS || number == FAILURE_SHORT || isOwnFailure(number);
    }

    private static boolean isStep(int kind, int a, int b) {
        switch (kind) {
            case STEP_ENTER:
                return isRoom(a) && isBlock(b);
            case STEP_TRY:
                return canBeHeld(a) && isBlock(b);
            case STEP_PUT:
            case STEP_WORTH:
            case STEP_GIVE:
            case STEP_GET:
            case STEP_EMPTY:
            case STEP_DEPTH:
            case STEP_SEEK:
                return isRoom(a);
            case STEP_DIVIDE:
            case STEP_BACK:
            case STEP_ADD:
                return true;
            case STEP_FAIL:
                return isOwnFailure(a);
            case STEP_DO:
                return isPlan(a);
            default:
                return false;
        }
    }

    private static Safe newSafe(int kind, int coins) {
        if (kind == KIND_VAULT) {
            return new Vault(KIND_VAULT, coins);
        }
        return kind == KIND_TIMED ? new Timed(KIND_TIMED, coins) : new Safe(KIND_SAFE, coins);
    }

    private Safe safeIn(int room) {
        return isRoom(room) ? rooms[room] : null;
    }

    private void setRoom(int room, Safe safe) {
        if (isRoom(room)) {
            rooms[room] = safe;
        }
    }

    private int roomsWithSafe() {
        int found = 0;
        for (int room = 0; room < ROOMS; room++) {
            if (rooms[room] != null) {
                found++;
            }
        }
        return found;
    }

    private void leaveInTrace(int number) {
        if (traced < TRACE_NUMBERS) {
            traceNumbers[traced] = number;
            traced++;
        }
    }

    // The recursion goes no deeper than 4 plans of 12 steps each: a plan beyond
    // the fourth is refused here, and a block's steps lie behind its own step.
    private int doPlan(int plan) {
        if (plansAtWork >= PLANS_AT_WORK || !isPlan(plan)) {
            return FAILURE_PLANS;
        }
        plansAtWork++;
        mostPlansAtWork = Math.max(mostPlansAtWork, plansAtWork);
        int end = doSteps(plans[plan], 0, plans[plan].size);
        plansAtWork--;
        return end == BACK ? DONE : end;
    }

    private int doSteps(Plan plan, int from, int to) {
        int next = from;
        for (int at = from; at < to; at++) {
            if (at == next) {
                next = plan.behind(at, to);
                int end = doStep(plan, at, next);
                if (end != DONE) {
                    return end;
                }
            }
        }
        return DONE;
    }

    private int doStep(Plan plan, int at, int next) {
        if (begun >= RUN_STEPS) {
            return FAILURE_SPENT;
        }
        begun++;
        int kind = plan.kinds[at];
        int a = plan.as[at];
        leaveInTrace(TRACE_STEP + kind);
        switch (kind) {
            case STEP_ENTER:
                return doInside(safeIn(a), plan, at + 1, next);
            case STEP_TRY:
                return doTry(a, plan, at + 1, next);
            case STEP_DO:
                return doPlan(a);
            case STEP_DIVIDE:
            case STEP_FAIL:
            case STEP_BACK:
            case STEP_ADD:
                return doWithValue(kind, a);
            case STEP_GET:
            case STEP_EMPTY:
            case STEP_SEEK:
                return doWithRooms(kind, a, plan.bs[at]);
            default:
                return doWithSafe(kind, safeIn(a), plan.bs[at]);
        }
    }

    private int doInside(Safe safe, Plan plan, int from, int to) {
        if (safe == null) {
            return FAILURE_NULL;
        }
        safe.enter();
        leaveInTrace(TRACE_ENTERED);
        int end = doSteps(plan, from, to);
        safe.leave();
        leaveInTrace(TRACE_LEFT);
        return end;
    }

    private int doTry(int held, Plan plan, int from, int to) {
        int end = doSteps(plan, from, to);
        if (end == DONE || end == BACK || end == FAILURE_SPENT) {
            return end;
        }
        if (held != ANY_FAILURE && held != end) {
            return end;
        }
        valueNow = end;
        return DONE;
    }

    private int doWithValue(int kind, int a) {
        switch (kind) {
            case STEP_DIVIDE:
                if (a == 0) {
                    return FAILURE_DIVISION;
                }
                valueNow /= a;
                return DONE;
            case STEP_FAIL:
                return a;
            case STEP_BACK:
                valueNow = a;
                return BACK;
            default:
                valueNow += a;
                return DONE;
        }
    }

    private int doWithRooms(int kind, int a, int b) {
        switch (kind) {
            case STEP_GET:
                setRoom(a, safeIn(Math.floorMod(b, ROOMS)));
                break;
            case STEP_EMPTY:
                setRoom(a, null);
                break;
            default:
                valueNow = seek(a, b);
                break;
        }
        return DONE;
    }

    private int seek(int first, int coins) {
        for (int room = first; room < ROOMS; room++) {
            Safe safe = safeIn(room);
            if (safe != null) {
                safe.enter();
                boolean found = safe.coins >= coins;
                safe.leave();
                if (found) {
                    return room;
                }
            }
        }
        return -1;
    }

    private int doWithSafe(int kind, Safe safe, int b) {
        if (safe == null) {
            return FAILURE_NULL;
        }
        switch (kind) {
            case STEP_PUT:
                return safe.put(b);
            case STEP_GIVE:
                return safe.give(valueNow, safeIn(Math.floorMod(b, ROOMS)));
            case STEP_WORTH:
                valueNow = safe.worth();
                return DONE;
            default:
                valueNow = safe.depth;
                return DONE;
        }
    }

    /** Up to twelve steps, in rows that are made once and used again. */
    private static final class Plan {
        final int[] kinds = new int[PLAN_STEPS];
        final int[] as = new int[PLAN_STEPS];
        final int[] bs = new int[PLAN_STEPS];
        int size;

        void add(int kind, int a, int b) {
            if (size < PLAN_STEPS) {
                kinds[size] = kind;
                as[size] = a;
                bs[size] = b;
                size++;
            }
        }

        /** Where it goes on behind a step and its block, within what ends at to. */
        int behind(int at, int to) {
            boolean hasBlock = kinds[at] == STEP_ENTER || kinds[at] == STEP_TRY;
            return hasBlock ? Math.min(at + 1 + bs[at], to) : at + 1;
        }
    }

    private static class Safe {
        final int kind;
        int coins;
        int turn;
        int entries;
        int depth;
        int most;

        Safe(int kind, int coins) {
            this.kind = kind;
            this.coins = coins;
        }

        void enter() {
            depth++;
            entries++;
            if (depth > most) {
                most = depth;
            }
        }

        void leave() {
            depth--;
        }

        int put(int n) {
            enter();
            int end = FAILURE_SHORT;
            long sum = (long) coins + n;
            if (sum >= 0 && sum <= MOST_COINS) {
                coins = (int) sum;
                end = DONE;
            }
            leave();
            return end;
        }

        int worth() {
            enter();
            int tells = coins;
            leave();
            return tells;
        }

        int give(int n, Safe other) {
            enter();
            int end = put(-n);
            if (end == DONE) {
                end = other == null ? FAILURE_NULL : other.put(n);
                if (end != DONE) {
                    // It can't fail: the coins go back the way they came.
                    put(n);
                }
            }
            leave();
            return end;
        }
    }

    private static class Timed extends Safe {
        Timed(int kind, int coins) {
            super(kind, coins);
        }

        int put(int n) {
            enter();
            turn++;
            int end = super.put(n);
            leave();
            return end;
        }

        int worth() {
            enter();
            int tells = super.worth() + turn;
            leave();
            return tells;
        }
    }

    private static final class Vault extends Timed {
        Vault(int kind, int coins) {
            super(kind, coins);
        }

        int put(int n) {
            enter();
            int end = super.put(n);
            if (end == DONE) {
                end = super.put(n);
            }
            leave();
            return end;
        }

        int worth() {
            enter();
            int tells = 2 * super.worth();
            leave();
            return tells;
        }
    }
}

/** The boundary cases of ROOMS, SAFES and PLANS at rest: promises 1 to 6, 10 and 11. */
public final class SafeDeskRoomEdges extends DeskChecks {
    private static void newObject() {
        says("1 A new object", "No SAFES, no STEPS.");
        SafeDesk x = new SafeDesk();
        for (int room = 0; room < 8; room++) {
            for (int what = 0; what <= 5; what++) {
                due("told(" + room + ", " + what + ")", BAD, x.told(room, what));
            }
        }
        due("rooms with a safe", 0, x.count(3));
        for (int plan = 0; plan < 6; plan++) {
            due("steps of plan " + plan, 0, x.count(4 + plan));
            due("clear(" + plan + ")", 0, x.clear(plan));
        }
        for (int room = 0; room < 8; room++) {
            due("same(0, " + room + ")", 1, x.same(0, room));
        }
    }

    private static void beforeARun() {
        SafeDesk x = new SafeDesk();
        says("8 value", "VALUE behind the latest RUN; 0 before one.");
        due("value()", 0, x.value());
        says("9 trace", "THE TRACE of the latest RUN: k -1 how many numbers");
        traceIs("before a run", x);
        says("11 count",
            "What = 0 STEPS of the latest RUN, 1 the FAILURE by which it ended (0), 2 the most PLANS");
        due("count(0)", 0, x.count(0));
        due("count(1)", 0, x.count(1));
        due("count(2)", 0, x.count(2));
    }

    private static void objectsAreApart() {
        says("1 A new object", "No SAFES, no STEPS.");
        SafeDesk first = planned(ADD, 5, 0);
        first.safe(0, SAFE, 5);
        first.run(0, 1);
        SafeDesk second = new SafeDesk();
        due("rooms of the second object", 0, second.count(3));
        due("steps of the second object", 0, second.count(4));
        due("value of the second object", 0, second.value());
        due("value of the first object", 6, first.value());
    }

    private static void newSafes() {
        says("2 safe", "A new SAFE in a ROOM: 1.");
        for (int room = 0; room < 8; room++) {
            for (int kind = SAFE; kind <= VAULT; kind++) {
                for (int coins : new int[] {0, 1, MOST_COINS - 1, MOST_COINS}) {
                    SafeDesk x = new SafeDesk();
                    due("safe(" + room + ", " + kind + ", " + coins + ")", 1, x.safe(room, kind, coins));
                    safeIs("a new one", x, room, kind, coins, 0, 0, 0, 0);
                    due("rooms with one", 1, x.count(3));
                }
            }
        }
    }

    private static void newSafeInPlace() {
        says("2 safe", "A new SAFE in a ROOM: 1.");
        SafeDesk x = planned(PUT, 4, 1);
        x.safe(4, VAULT, 10);
        x.share(4, 5);
        x.run(0, 0);
        due("a new one in the place of one", 1, x.safe(4, VAULT, 12));
        safeIs("it begins anew", x, 4, VAULT, 12, 0, 0, 0, 0);
        safeIs("the other room keeps the old one", x, 5, VAULT, 12, 2, 5, 0, 3);
        due("they are not the same", 0, x.same(4, 5));
    }

    private static void sharedByAll() {
        says("ROOMS", "a SAFE may stand in several ROOMS.");
        SafeDesk x = planned(PUT, 7, 3);
        x.safe(0, TIMED, 10);
        for (int room = 0; room < 7; room++) {
            due("share(" + room + ", " + (room + 1) + ")", 1, x.share(room, room + 1));
        }
        due("ROOMS with a SAFE", 8, x.count(3));
        x.run(0, 0);
        for (int room = 0; room < 8; room++) {
            safeIs("seen from everywhere", x, room, TIMED, 13, 1, 2, 0, 2);
            due("same(" + room + ", 7)", 1, x.same(room, 7));
        }
    }

    private static void sharedNone() {
        says("3 share", "ROOM to gets what ROOM from has, or none: 1, 0.");
        SafeDesk x = new SafeDesk();
        due("none to none", 0, x.share(0, 7));
        due("none to itself", 0, x.share(7, 7));
        x.safe(7, SAFE, 1);
        due("to itself", 1, x.share(7, 7));
        due("it is still there", 1, x.told(7, COINS));
        due("from the last to the first", 1, x.share(7, 0));
        due("both have it", 2, x.count(3));
        due("none over one", 0, x.share(1, 7));
        due("the room has none now", BAD, x.told(7, KIND));
        due("the other keeps it", 1, x.told(0, COINS));
        due("none over the last one", 0, x.share(1, 0));
        due("no room has one", 0, x.count(3));
    }

    private static void sameSafes() {
        says("4 same", "Whether two ROOMS have the same SAFE, or none both: 1, 0.");
        SafeDesk x = new SafeDesk();
        due("none both", 1, x.same(0, 7));
        due("none, itself", 1, x.same(7, 7));
        x.safe(0, SAFE, 0);
        due("one and none", 0, x.same(0, 7));
        due("none and one", 0, x.same(7, 0));
        due("itself", 1, x.same(0, 0));
        x.safe(7, SAFE, 0);
        due("alike in all numbers", 0, x.same(0, 7));
        x.share(0, 7);
        due("the same", 1, x.same(0, 7));
        due("the same, the other way", 1, x.same(7, 0));
    }

    private static void stepsUpToTwelve() {
        says("PLANS", "PLANS 0 .. 5 have up to 12 STEPS");
        for (int plan = 0; plan < 6; plan++) {
            SafeDesk x = new SafeDesk();
            for (int i = 1; i <= 12; i++) {
                due("step " + i + " of plan " + plan, i, x.step(plan, ADD, 1 << i, 0));
                due("count of plan " + plan, i, x.count(4 + plan));
            }
            due("a thirteenth", FULL, x.step(plan, ADD, 1, 0));
            due("run", 1, x.run(plan, 0));
            due("each was done once", (1 << 13) - 2, x.value());
            for (int other = 0; other < 6; other++) {
                due("plan " + other, other == plan ? 12 : 0, x.count(4 + other));
            }
        }
    }

    private static void cleared() {
        says("6 clear", "A PLAN has no STEPS: how many it had.");
        SafeDesk x = new SafeDesk();
        due("without steps", 0, x.clear(5));
        planOf(x, 5, 12, ADD, 1);
        due("full", 12, x.clear(5));
        due("again", 0, x.clear(5));
        due("its steps", 0, x.count(9));
        due("run of it", 1, x.run(5, 3));
        due("nothing was done", 3, x.value());
        due("the first step again", 1, x.step(5, ADD, 100, 0));
        x.run(5, 3);
        due("only that was done", 103, x.value());
        planOf(x, 5, 12, ADD, 2);
        due("full again", FULL, x.step(5, ADD, 2, 0));
    }

    private static void clearLeavesTheRun() {
        says("6 clear, what the latest RUN told stays", "A PLAN has no STEPS");
        SafeDesk x = planned(ADD, 1, 0, FAIL, 23, 0);
        x.run(0, 5);
        x.clear(0);
        due("value of the latest run", 6, x.value());
        due("steps of the latest run", 2, x.count(0));
        due("failure of the latest run", 23, x.count(1));
        traceIs("latest run", x, 111, 109);
    }

    private static void allowedSteps() {
        says("5 step, what is allowed", "a of 0, 2 to 7, 13 is a ROOM");
        SafeDesk x = new SafeDesk();
        for (int kind : new int[] {ENTER, PUT, WORTH, GIVE, GET, EMPTY, DEPTH, SEEK}) {
            plan(x, 0, kind, 0, 1, kind, 7, 11);
        }
        plan(x, 0, TRY, 0, 1, TRY, 30, 11);
        says("5 step, what is allowed", "of 1 is not 0, 1, 6, 7, 20 .. 23, 30");
        plan(x, 0, TRY, 0, 1, TRY, 1, 1, TRY, 6, 1, TRY, 7, 1, TRY, 20, 1, TRY, 21, 1, TRY, 22, 1, TRY, 23, 1,
            TRY, 30, 1);
        says("5 step, what is allowed", "of 9 not 20 .. 23, of 12 no PLAN");
        plan(x, 0, FAIL, 20, 0, FAIL, 21, 0, FAIL, 22, 0, FAIL, 23, 0, DO, 0, 0, DO, 5, 0);
        says("5 step, any other a and b", "A STEP more of a PLAN: how many.");
        for (int kind : new int[] {DIVIDE, BACK, ADD}) {
            plan(x, 0, kind, MIN, MIN, kind, -1, -1, kind, 0, 0, kind, 8, 12, kind, MAX, MAX);
        }
        for (int kind : new int[] {PUT, WORTH, GIVE, GET, EMPTY, DEPTH, SEEK}) {
            plan(x, 0, kind, 0, MIN, kind, 0, -1, kind, 0, 0, kind, 0, 12, kind, 0, MAX);
        }
        plan(x, 0, FAIL, 20, MIN, FAIL, 20, MAX, DO, 0, MIN, DO, 0, MAX);
    }

    private static void countsOfPlans() {
        says("11 count", "of PLAN what - 4: how many STEPS (4 .. 9).");
        SafeDesk x = new SafeDesk();
        planOf(x, 0, 12, ADD, 1);
        planOf(x, 5, 1, ADD, 1);
        int[] want = {12, 0, 0, 0, 0, 1};
        for (int plan = 0; plan < 6; plan++) {
            due("count(" + (4 + plan) + ")", want[plan], x.count(4 + plan));
        }
        says("11 count", "3 ROOMS with a SAFE");
        for (int room = 0; room < 8; room++) {
            due("rooms", room, x.count(3));
            x.safe(room, SAFE, 0);
        }
        due("all rooms", 8, x.count(3));
    }

    public static void main(String[] args) {
        newObject();
        beforeARun();
        objectsAreApart();
        newSafes();
        newSafeInPlace();
        sharedByAll();
        sharedNone();
        sameSafes();
        stepsUpToTwelve();
        cleared();
        clearLeavesTheRun();
        allowedSteps();
        countsOfPlans();
        end();
    }
}

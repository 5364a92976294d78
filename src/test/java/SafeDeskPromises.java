/** The promises 1 to 11, each by its own words: ordinary inputs, edges, and wrong inputs. */
public final class SafeDeskPromises extends DeskChecks {
    private static void promise1New() {
        says("1 A new object", "No SAFES, no STEPS.");
        SafeDesk x = new SafeDesk();
        for (int what = 0; what <= 9; what++) {
            due("new: count(" + what + ")", 0, x.count(what));
        }
        for (int room = 0; room < 8; room++) {
            due("new: told(" + room + ", 0)", -1, x.told(room, 0));
        }
        due("new: value", 0, x.value());
        traceIs("new", x);
    }

    private static void promise2Safe() {
        says("2 safe", "A new SAFE in a ROOM: 1. BAD: also COINS below 0, or above 1000000.");
        SafeDesk x = new SafeDesk();
        due("safe(0, 0, 0)", 1, x.safe(0, 0, 0));
        due("safe(7, 2, 1000000)", 1, x.safe(7, 2, 1000000));
        safeIs("first safe", x, 0, 0, 0, 0, 0, 0, 0);
        safeIs("last safe", x, 7, 2, 1000000, 0, 0, 0, 0);
        due("safe in place of another", 1, x.safe(7, 1, 5));
        safeIs("replaced", x, 7, 1, 5, 0, 0, 0, 0);
        int[][] bad = {{-1, 0, 0}, {8, 0, 0}, {MIN, 0, 0}, {MAX, 0, 0}, {0, -1, 0}, {0, 3, 0}, {0, MIN, 0},
            {0, MAX, 0}, {0, 0, -1}, {0, 0, 1000001}, {0, 0, MIN}, {0, 0, MAX}};
        for (int[] b : bad) {
            due("bad safe", -1, x.safe(b[0], b[1], b[2]));
        }
        due("bad safes change nothing", 2, x.count(3));
        safeIs("bad safes change nothing", x, 0, 0, 0, 0, 0, 0, 0);
    }

    private static void promise3Share() {
        says("3 share", "ROOM to gets what ROOM from has, or none: 1, 0. BAD.");
        SafeDesk x = new SafeDesk();
        x.safe(0, 1, 7);
        due("share(0, 7)", 1, x.share(0, 7));
        due("shared kind", 1, x.told(7, KIND));
        due("share(0, 0)", 1, x.share(0, 0));
        due("share of none", 0, x.share(3, 7));
        due("none is shared", -1, x.told(7, KIND));
        due("share of none with itself", 0, x.share(3, 3));
        int[] bad = {-1, 8, MIN, MAX};
        for (int b : bad) {
            due("share from bad", -1, x.share(b, 0));
            due("share to bad", -1, x.share(0, b));
        }
        due("bad shares change nothing", 7, x.told(0, COINS));
    }

    private static void promise4Same() {
        says("4 same", "Whether two ROOMS have the same SAFE, or none both: 1, 0. BAD.");
        SafeDesk x = new SafeDesk();
        x.safe(0, 0, 5);
        x.safe(1, 0, 5);
        x.share(0, 2);
        due("alike, not the same", 0, x.same(0, 1));
        due("the same", 1, x.same(0, 2));
        due("itself", 1, x.same(1, 1));
        due("one is none", 0, x.same(0, 3));
        due("the other is none", 0, x.same(3, 0));
        due("none both", 1, x.same(3, 7));
        x.safe(0, 0, 5);
        due("no longer the same", 0, x.same(0, 2));
        int[] bad = {-1, 8, MIN, MAX};
        for (int b : bad) {
            due("same of bad", -1, x.same(b, 0));
            due("same with bad", -1, x.same(0, b));
            due("same of bad both", -1, x.same(b, b));
        }
    }

    private static void promise5StepInputs() {
        says("5 step",
            "A STEP more of a PLAN: how many. BAD: kind 0 .. 13; a of 0, 2 to 7, 13 is no ROOM, of 1 is not 0, 1, "
            + "6, 7, 20 .. 23, 30, of 9 not 20 .. 23, of 12 no PLAN; b of 0, 1 not 1 .. 11; FULL.");
        SafeDesk x = new SafeDesk();
        int[] roomKinds = {ENTER, PUT, WORTH, GIVE, GET, EMPTY, DEPTH, SEEK};
        for (int kind : roomKinds) {
            for (int a : new int[] {-1, 8, MIN, MAX}) {
                due("kind " + kind + " without a room", -1, x.step(0, kind, a, 1));
            }
            due("kind " + kind + " of room 7", 1, x.step(0, kind, 7, 11));
            due("clear", 1, x.clear(0));
        }
        for (int a = -2; a <= 45; a++) {
            boolean held = a == 0 || a == 1 || a == 6 || a == 7 || a >= 20 && a <= 23 || a == 30;
            due("try " + a, held ? 1 : -1, x.step(0, TRY, a, 1));
            x.clear(0);
            due("fail " + a, a >= 20 && a <= 23 ? 1 : -1, x.step(0, FAIL, a, 0));
            x.clear(0);
            due("do " + a, a >= 0 && a <= 5 ? 1 : -1, x.step(0, DO, a, 0));
            x.clear(0);
        }
        for (int b : new int[] {MIN, -1, 0, 12, MAX}) {
            due("enter for " + b, -1, x.step(0, ENTER, 0, b));
            due("try for " + b, -1, x.step(0, TRY, 0, b));
            due("put " + b, 1, x.step(0, PUT, 0, b));
            due("give to " + b, 2, x.step(0, GIVE, 0, b));
            due("add " + b, 3, x.step(0, ADD, b, b));
            due("divide by " + b, 4, x.step(0, DIVIDE, b, b));
            due("back " + b, 5, x.step(0, BACK, b, b));
            x.clear(0);
        }
        for (int bad : new int[] {MIN, -1, 14, MAX}) {
            due("bad kind", -1, x.step(0, bad, 0, 1));
        }
        for (int bad : new int[] {MIN, -1, 6, MAX}) {
            due("bad plan", -1, x.step(bad, ADD, 0, 1));
        }
        due("bad steps change nothing", 0, x.count(4));
    }

    private static void promise5StepFull() {
        says("5 step", "A STEP more of a PLAN: how many.");
        SafeDesk x = new SafeDesk();
        for (int i = 1; i <= 12; i++) {
            due("step " + i, i, x.step(5, ADD, 1, 0));
        }
        says("5 step", "FULL.");
        due("a thirteenth", SafeDesk.FULL, x.step(5, ADD, 1, 0));
        due("bad goes before full", -1, x.step(5, 14, 1, 0));
        due("full changes nothing", 12, x.count(9));
        due("all twelve are done", 1, x.run(5, 0));
        due("twelve were added", 12, x.value());
        due("other plans stay", 1, x.step(4, ADD, 1, 0));
    }

    private static void promise6Clear() {
        says("6 clear", "A PLAN has no STEPS: how many it had. BAD.");
        SafeDesk x = planned(ADD, 1, 0, ADD, 2, 0);
        plan(x, 1, ADD, 5, 0);
        due("clear(0)", 2, x.clear(0));
        due("clear(0) again", 0, x.clear(0));
        due("clear leaves others", 1, x.count(5));
        runIs("cleared plan", x, 9, 1, 9);
        due("first step again", 1, x.step(0, ADD, 3, 0));
        runIs("refilled plan", x, 9, 1, 12);
        for (int bad : new int[] {MIN, -1, 6, MAX}) {
            due("clear bad", -1, x.clear(bad));
        }
        due("bad clear changes nothing", 1, x.count(4));
    }

    private static void promise7Run() {
        says("7 run", "A RUN: 1, or -10 less the FAILURE. BAD.");
        SafeDesk x = planned(ADD, 1, 0);
        plan(x, 5, ADD, 1, 0, FAIL, 21, 0);
        due("run of plan 0", 1, x.run(0, 4));
        due("run of plan 5", -31, x.run(5, 4));
        due("run of a plan without steps", 1, x.run(3, 4));
        due("run of plan 0 again", 1, x.run(0, 4));
        for (int bad : new int[] {MIN, -1, 6, MAX}) {
            due("run bad", BAD, x.run(bad, 77));
        }
        due("bad run leaves value", 5, x.value());
        due("bad run leaves steps", 1, x.count(0));
        traceIs("bad run", x, 111);
    }

    private static void promise8Value() {
        says("8 value", "VALUE behind the latest RUN; 0 before one.");
        SafeDesk x = planned(ADD, 1, 0, FAIL, 20, 0);
        due("before a run", 0, x.value());
        due("run", -30, x.run(0, 6));
        due("behind a failure", 7, x.value());
        due("asked again", 7, x.value());
        x.clear(0);
        due("run", 1, x.run(0, -6));
        due("behind a later run", -6, x.value());
    }

    private static void promise9Trace() {
        says("9 trace", "THE TRACE of the latest RUN: k -1 how many numbers, else its k-th. BAD.");
        SafeDesk x = planned(ADD, 1, 0, FAIL, 20, 0);
        due("before a run", 0, x.trace(-1));
        due("trace(0) before a run", BAD, x.trace(0));
        x.run(0, 6);
        due("how many", 2, x.trace(-1));
        due("the first", 111, x.trace(0));
        due("the last", 109, x.trace(1));
        for (int bad : new int[] {MIN, -2, 2, 120, MAX}) {
            due("trace(" + bad + ")", BAD, x.trace(bad));
        }
        x.clear(0);
        x.run(0, 6);
        traceIs("a run without steps", x);
    }

    private static void promise10Told() {
        says("10 told",
            "Of the SAFE of a ROOM: what = 0 KIND, 1 COINS, 2 TURN, 3 ENTRIES, 4 DEPTH, 5 MOST. BAD: also a ROOM "
            + "without one.");
        SafeDesk x = planned(PUT, 4, 1);
        x.safe(3, VAULT, 44);
        safeIs("told", x, 3, VAULT, 44, 0, 0, 0, 0);
        x.share(3, 4);
        x.run(0, 0);
        x.run(0, 0);
        safeIs("told behind two runs", x, 3, VAULT, 48, 4, 10, 0, 3);
        for (int bad : new int[] {MIN, -1, 6, MAX}) {
            due("told what " + bad, BAD, x.told(3, bad));
        }
        for (int bad : new int[] {MIN, -1, 2, 5, 8, MAX}) {
            due("told of room " + bad, BAD, x.told(bad, COINS));
        }
    }

    private static void promise11CountOfRuns() {
        says("11 count",
            "What = 0 STEPS of the latest RUN, 1 the FAILURE by which it ended (0), 2 the most PLANS that were at work "
            + "in it");
        SafeDesk x = planned(ADD, 1, 0, DO, 1, 0, DO, 3, 0, FAIL, 23, 0);
        plan(x, 1, DO, 2, 0);
        for (int what = 0; what <= 2; what++) {
            due("count(" + what + ") before a run", 0, x.count(what));
        }
        x.run(0, 0);
        due("steps", 5, x.count(0));
        due("failure", 23, x.count(1));
        due("most plans", 3, x.count(2));
        x.run(5, 0);
        due("steps of a plan without steps", 0, x.count(0));
        due("no failure any more", 0, x.count(1));
        due("a plan without steps is at work", 1, x.count(2));
    }

    private static void promise11CountOfTheDesk() {
        says("11 count", "3 ROOMS with a SAFE; of PLAN what - 4: how many STEPS (4 .. 9). BAD.");
        SafeDesk x = new SafeDesk();
        x.safe(0, SAFE, 0);
        x.share(0, 7);
        due("rooms, not safes", 2, x.count(3));
        for (int plan = 0; plan < 6; plan++) {
            planOf(x, plan, plan + 1, ADD, 1);
        }
        for (int plan = 0; plan < 6; plan++) {
            due("steps of plan " + plan, plan + 1, x.count(4 + plan));
        }
        for (int bad : new int[] {MIN, MIN + 3, -1, 10, MAX}) {
            due("count(" + bad + ")", BAD, x.count(bad));
        }
    }

    public static void main(String[] args) {
        promise1New();
        promise2Safe();
        promise3Share();
        promise4Same();
        promise5StepInputs();
        promise5StepFull();
        promise6Clear();
        promise7Run();
        promise8Value();
        promise9Trace();
        promise10Told();
        promise11CountOfRuns();
        promise11CountOfTheDesk();
        end();
    }
}

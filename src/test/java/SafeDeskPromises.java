/** Each promise of the document: ordinary inputs, its edges, and wrong inputs. */
public final class SafeDeskPromises extends DeskChecks {
    private static void promise1New() {
        SafeDesk x = new SafeDesk();
        for (int what = 0; what <= 9; what++) {
            due("new: count(" + what + ")", 0, x.count(what));
        }
        for (int room = 0; room < 8; room++) {
            due("new: told(" + room + ", 0)", -1, x.told(room, 0));
        }
        due("new: value", 0, x.value());
        traceIs("new", x);
    }

    private static void promise2Safe() {
        SafeDesk x = new SafeDesk();
        due("safe(0, 0, 0)", 1, x.safe(0, 0, 0));
        due("safe(7, 2, 1000000)", 1, x.safe(7, 2, 1000000));
        safeIs("first safe", x, 0, 0, 0, 0, 0, 0, 0);
        safeIs("last safe", x, 7, 2, 1000000, 0, 0, 0, 0);
        due("safe in place of another", 1, x.safe(7, 1, 5));
        safeIs("replaced", x, 7, 1, 5, 0, 0, 0, 0);
        int[][] bad = {{-1, 0, 0}, {8, 0, 0}, {MIN, 0, 0}, {MAX, 0, 0}, {0, -1, 0}, {0, 3, 0}, {0, MIN, 0},
            {0, MAX, 0}, {0, 0, -1}, {0, 0, 1000001}, {0, 0, MIN}, {0, 0, MAX}};
        for (int[] b : bad) {
            due("bad safe", -1, x.safe(b[0], b[1], b[2]));
        }
        due("bad safes change nothing", 2, x.count(3));
        safeIs("bad safes change nothing", x, 0, 0, 0, 0, 0, 0, 0);
    }

    private static void promise3Share() {
        SafeDesk x = new SafeDesk();
        x.safe(0, 1, 7);
        due("share(0, 7)", 1, x.share(0, 7));
        due("shared kind", 1, x.told(7, KIND));
        due("share(0, 0)", 1, x.share(0, 0));
        due("share of none", 0, x.share(3, 7));
        due("none is shared", -1, x.told(7, KIND));
        due("share of none with itself", 0, x.share(3, 3));
        int[] bad = {-1, 8, MIN, MAX};
        for (int b : bad) {
            due("share from bad", -1, x.share(b, 0));
            due("share to bad", -1, x.share(0, b));
        }
        due("bad shares change nothing", 7, x.told(0, COINS));
    }

    private static void promise4Same() {
        SafeDesk x = new SafeDesk();
        x.safe(0, 0, 5);
        x.safe(1, 0, 5);
        x.share(0, 2);
        due("alike, not the same", 0, x.same(0, 1));
        due("the same", 1, x.same(0, 2));
        due("itself", 1, x.same(1, 1));
        due("one is none", 0, x.same(0, 3));
        due("the other is none", 0, x.same(3, 0));
        due("none both", 1, x.same(3, 7));
        x.safe(0, 0, 5);
        due("no longer the same", 0, x.same(0, 2));
        int[] bad = {-1, 8, MIN, MAX};
        for (int b : bad) {
            due("same of bad", -1, x.same(b, 0));
            due("same with bad", -1, x.same(0, b));
            due("same of bad both", -1, x.same(b, b));
        }
    }

    private static void promise5StepInputs() {
        SafeDesk x = new SafeDesk();
        int[] roomKinds = {ENTER, PUT, WORTH, GIVE, GET, EMPTY, DEPTH, SEEK};
        for (int kind : roomKinds) {
            for (int a : new int[] {-1, 8, MIN, MAX}) {
                due("kind " + kind + " without a room", -1, x.step(0, kind, a, 1));
            }
            due("kind " + kind + " of room 7", 1, x.step(0, kind, 7, 11));
            due("clear", 1, x.clear(0));
        }
        for (int a = -2; a <= 45; a++) {
            boolean held = a == 0 || a == 1 || a == 6 || a == 7 || a >= 20 && a <= 23 || a == 30;
            due("try " + a, held ? 1 : -1, x.step(0, TRY, a, 1));
            x.clear(0);
            due("fail " + a, a >= 20 && a <= 23 ? 1 : -1, x.step(0, FAIL, a, 0));
            x.clear(0);
            due("do " + a, a >= 0 && a <= 5 ? 1 : -1, x.step(0, DO, a, 0));
            x.clear(0);
        }
        for (int b : new int[] {MIN, -1, 0, 12, MAX}) {
            due("enter for " + b, -1, x.step(0, ENTER, 0, b));
            due("try for " + b, -1, x.step(0, TRY, 0, b));
            due("put " + b, 1, x.step(0, PUT, 0, b));
            due("give to " + b, 2, x.step(0, GIVE, 0, b));
            due("add " + b, 3, x.step(0, ADD, b, b));
            due("divide by " + b, 4, x.step(0, DIVIDE, b, b));
            due("back " + b, 5, x.step(0, BACK, b, b));
            x.clear(0);
        }
        for (int bad : new int[] {MIN, -1, 14, MAX}) {
            due("bad kind", -1, x.step(0, bad, 0, 1));
        }
        for (int bad : new int[] {MIN, -1, 6, MAX}) {
            due("bad plan", -1, x.step(bad, ADD, 0, 1));
        }
        due("bad steps change nothing", 0, x.count(4));
    }

    private static void promise5StepFull() {
        SafeDesk x = new SafeDesk();
        for (int i = 1; i <= 12; i++) {
            due("step " + i, i, x.step(5, ADD, 1, 0));
        }
        due("a thirteenth", SafeDesk.FULL, x.step(5, ADD, 1, 0));
        due("bad goes before full", -1, x.step(5, 14, 1, 0));
        due("full changes nothing", 12, x.count(9));
        due("all twelve are done", 1, x.run(5, 0));
        due("twelve were added", 12, x.value());
        due("other plans stay", 1, x.step(4, ADD, 1, 0));
    }

    private static void promise6Clear() {
        SafeDesk x = planned(ADD, 1, 0, ADD, 2, 0);
        plan(x, 1, ADD, 5, 0);
        due("clear(0)", 2, x.clear(0));
        due("clear(0) again", 0, x.clear(0));
        due("clear leaves others", 1, x.count(5));
        runIs("cleared plan", x, 9, 1, 9);
        due("first step again", 1, x.step(0, ADD, 3, 0));
        runIs("refilled plan", x, 9, 1, 12);
        for (int bad : new int[] {MIN, -1, 6, MAX}) {
            due("clear bad", -1, x.clear(bad));
        }
        due("bad clear changes nothing", 1, x.count(4));
    }

    private static void promise7RunBad() {
        SafeDesk x = planned(ADD, 1, 0);
        x.run(0, 4);
        for (int bad : new int[] {MIN, -1, 6, MAX}) {
            due("run bad", -1, x.run(bad, 77));
        }
        due("bad run leaves value", 5, x.value());
        due("bad run leaves steps", 1, x.count(0));
        traceIs("bad run", x, 111);
    }

    private static void promise7Members() {
        SafeDesk x = planned(PUT, 0, 5, PUT, 1, 5, PUT, 2, 5);
        x.safe(0, 0, 10);
        x.safe(1, 1, 10);
        x.safe(2, 2, 10);
        runIs("puts", x, 0, 1, 0);
        safeIs("put of a safe", x, 0, 0, 15, 0, 1, 0, 1);
        safeIs("put of a timed", x, 1, 1, 15, 1, 2, 0, 2);
        safeIs("put of a vault", x, 2, 2, 20, 2, 5, 0, 3);
        plan(x, 0, WORTH, 0, 0);
        runIs("worth of a safe", x, 0, 1, 15);
        plan(x, 0, WORTH, 1, 0);
        runIs("worth of a timed", x, 0, 1, 16);
        plan(x, 0, WORTH, 2, 0);
        runIs("worth of a vault", x, 0, 1, 44);
        safeIs("worth of a safe", x, 0, 0, 15, 0, 2, 0, 1);
        safeIs("worth of a timed", x, 1, 1, 15, 1, 4, 0, 2);
        safeIs("worth of a vault", x, 2, 2, 20, 2, 8, 0, 3);
    }

    private static void promise7PutEdges() {
        int[][] rows = {{0, 0, 1, 0}, {-1, 0, 30, 0}, {1000000, 0, 1, 1000000}, {1000001, 0, 30, 0},
            {1, 1000000, 30, 1000000}, {-1000000, 1000000, 1, 0}, {-1000001, 1000000, 30, 1000000},
            {MAX, 1000000, 30, 1000000}, {MIN, 0, 30, 0}};
        for (int[] r : rows) {
            SafeDesk x = planned(PUT, 0, r[0]);
            x.safe(0, 0, r[1]);
            runIs("put " + r[0], x, 3, r[2] == 30 ? -40 : 1, 3);
            safeIs("put " + r[0], x, 0, 0, r[3], 0, 1, 0, 1);
        }
        SafeDesk timed = planned(PUT, 0, -1);
        timed.safe(0, 1, 0);
        runIs("short timed", timed, 3, -40, 3);
        safeIs("a turn stays", timed, 0, 1, 0, 1, 2, 0, 2);
        SafeDesk vault = planned(PUT, 0, -6);
        vault.safe(0, 2, 10);
        runIs("vault short the second time", vault, 3, -40, 3);
        safeIs("its first put stays", vault, 0, 2, 4, 2, 5, 0, 3);
        runIs("vault short the first time", vault, 3, -40, 3);
        safeIs("no second put", vault, 0, 2, 4, 3, 8, 0, 3);
    }

    private static void promise7Give() {
        SafeDesk x = planned(GIVE, 0, 1);
        x.safe(0, 0, 10);
        x.safe(1, 1, 999995);
        runIs("give", x, 5, 1, 5);
        safeIs("giver", x, 0, 0, 5, 0, 2, 0, 2);
        safeIs("taker", x, 1, 1, 1000000, 1, 2, 0, 2);
        runIs("taker is short", x, 5, -40, 5);
        safeIs("giver has it back", x, 0, 0, 5, 0, 5, 0, 2);
        safeIs("taker's turn stays", x, 1, 1, 1000000, 2, 4, 0, 2);
        runIs("giver is short", x, 6, -40, 6);
        safeIs("nothing is put back", x, 0, 0, 5, 0, 7, 0, 2);
        due("taker is not asked", 4, x.told(1, ENTRIES));
        runIs("give less than none", x, -7, 1, -7);
        due("giver took", 12, x.told(0, COINS));
        runIs("give the least int", x, MIN, -40, MIN);
        due("giver of the least int", 12, x.told(0, COINS));
    }

    private static void promise7GiveToNone() {
        SafeDesk x = planned(GIVE, 0, 3);
        runIs("none gives", x, 5, -11, 5);
        x.safe(0, 2, 10);
        runIs("none takes", x, 5, -11, 5);
        safeIs("vault has it back", x, 0, 2, 10, 4, 11, 0, 4);
        runIs("short goes before none", x, 11, -40, 11);
        x.safe(0, 1, 10);
        plan(x, 0, GIVE, 0, 0);
        runIs("give to itself", x, 10, 1, 10);
        safeIs("gave to itself", x, 0, 1, 10, 2, 5, 0, 3);
        x.safe(0, 0, 10);
        x.safe(1, 2, 999990);
        plan(x, 0, GIVE, 0, 1);
        runIs("vault takes half", x, 6, -40, 6);
        due("vault keeps its half", 999996, x.told(1, COINS));
        due("giver has all back", 10, x.told(0, COINS));
    }

    private static void promise7RoomsModulo() {
        for (int b : new int[] {-7, 1, 9, -MAX, 1 + (MAX & ~7)}) {
            SafeDesk x = planned(GIVE, 0, b, GET, 2, b, GET, 1, b - 1);
            x.safe(0, 0, 10);
            x.safe(1, 0, 0);
            runIs("room " + b, x, 4, 1, 4);
            due("given to room 1", 4, x.told(2, COINS));
            due("room 1 got room 0", 1, x.same(0, 1));
        }
        SafeDesk x = planned(GET, 0, 5, GET, 1, 7);
        x.safe(0, 0, 1);
        x.safe(7, 0, 2);
        runIs("get", x, 0, 1, 0);
        due("got none", -1, x.told(0, KIND));
        due("got the same", 1, x.same(1, 7));
        plan(x, 0, EMPTY, 1, 0, EMPTY, 2, 0);
        runIs("empty", x, 0, 1, 0);
        due("emptied", -1, x.told(1, KIND));
        due("the other room keeps it", 2, x.told(7, COINS));
    }

    private static void promise7Enter() {
        SafeDesk x = planned(ENTER, 0, 3, ENTER, 0, 1, DEPTH, 0, 0, ADD, 10, 0, DEPTH, 0, 0);
        runIs("enter none", x, 9, -11, 9);
        traceIs("enter none", x, 100);
        x.safe(0, 1, 5);
        runIs("enter twice", x, 9, 1, 0);
        traceIs("enter twice", x, 100, 1, 100, 1, 107, 2, 111, 2, 107);
        safeIs("entered twice", x, 0, 1, 5, 0, 2, 0, 2);
        plan(x, 0, ENTER, 0, 2, EMPTY, 0, 0, GET, 0, 1, DEPTH, 0, 0);
        x.share(0, 2);
        x.safe(1, 0, 8);
        runIs("room gets another", x, 9, 1, 0);
        safeIs("that very safe is left", x, 2, 1, 5, 0, 3, 0, 2);
        safeIs("the other is not", x, 0, 0, 8, 0, 0, 0, 0);
        plan(x, 0, ENTER, 0, 11);
        runIs("enter for none", x, 9, 1, 9);
        traceIs("enter for none", x, 100, 1, 2);
    }

    private static void promise7EnterEnds() {
        SafeDesk x = planned(ENTER, 0, 11, ENTER, 1, 11, FAIL, 21, 0, ADD, 1, 0);
        x.safe(0, 0, 5);
        x.safe(1, 0, 5);
        runIs("fail inside", x, 9, -31, 9);
        traceIs("fail inside", x, 100, 1, 100, 1, 109, 2, 2);
        plan(x, 0, ENTER, 0, 11, ENTER, 1, 11, BACK, 21, 0, ADD, 1, 0);
        runIs("back inside", x, 9, 1, 21);
        traceIs("back inside", x, 100, 1, 100, 1, 110, 2, 2);
        safeIs("left by both", x, 0, 0, 5, 0, 2, 0, 1);
        // An inner block ends with the outer one, so the last step is done outside of both.
        plan(x, 0, ENTER, 0, 2, ENTER, 0, 11, ADD, 1, 0, DEPTH, 0, 0);
        runIs("inner block is cut", x, 9, 1, 0);
        traceIs("inner block is cut", x, 100, 1, 100, 1, 111, 2, 2, 107);
    }

    private static void promise7Try() {
        SafeDesk x = planned(TRY, 22, 3, ADD, 1, 0, FAIL, 22, 0, ADD, 1, 0, ADD, 100, 0);
        runIs("try holds its own", x, 9, 1, 122);
        traceIs("try holds its own", x, 101, 111, 109, 111);
        plan(x, 0, TRY, 20, 3, ADD, 1, 0, FAIL, 22, 0, ADD, 1, 0, ADD, 100, 0);
        runIs("try holds no other", x, 9, -32, 10);
        plan(x, 0, TRY, 0, 1, ADD, 1, 0, FAIL, 23, 0);
        runIs("behind the try", x, 9, -33, 10);
        plan(x, 0, TRY, 0, 2, TRY, 1, 11, DIVIDE, 0, 0, ADD, 1, 0);
        runIs("outer try holds", x, 9, 1, 7);
        plan(x, 0, TRY, 0, 2, BACK, 50, 0, ADD, 1, 0);
        runIs("back goes through a try", x, 9, 1, 50);
        traceIs("back goes through a try", x, 101, 110);
        plan(x, 0, TRY, 30, 2, ENTER, 0, 1, PUT, 0, -1, DEPTH, 0, 0);
        x.safe(0, 0, 0);
        runIs("left on the way to the try", x, 9, 1, 0);
        traceIs("left on the way to the try", x, 101, 100, 1, 102, 2, 107);
        for (int kind : new int[] {PUT, WORTH, GIVE, DEPTH}) {
            plan(x, 0, TRY, 1, 1, kind, 5, 0);
            runIs("none for kind " + kind, x, 9, 1, 1);
        }
    }

    private static void promise7Numbers() {
        int[][] rows = {{DIVIDE, 2, 7, 3}, {DIVIDE, 2, -7, -3}, {DIVIDE, -2, 7, -3}, {DIVIDE, -1, MIN, MIN},
            {DIVIDE, MIN, MAX, 0}, {ADD, 1, MAX, MIN}, {ADD, -1, MIN, MAX}, {ADD, MIN, MIN, 0}, {BACK, MIN, 3, MIN}};
        for (int[] r : rows) {
            SafeDesk x = planned(r[0], r[1], 0);
            runIs("kind " + r[0] + " " + r[1] + " of " + r[2], x, r[2], 1, r[3]);
        }
        SafeDesk x = planned(ADD, 1, 0, DIVIDE, 0, 0, ADD, 1, 0);
        runIs("by 0", x, 5, -16, 6);
        for (int number = 20; number <= 23; number++) {
            plan(x, 0, FAIL, number, 0);
            runIs("fail", x, 5, -10 - number, 5);
        }
    }

    private static void promise7Do() {
        SafeDesk x = planned(DO, 1, 0, ADD, 1, 0);
        plan(x, 1, BACK, 40, 0, ADD, 500, 0);
        runIs("back ends just that plan", x, 9, 1, 41);
        traceIs("back ends just that plan", x, 112, 110, 111);
        due("two at work", 2, x.count(2));
        plan(x, 1, FAIL, 20, 0);
        runIs("a failure goes on", x, 9, -30, 9);
        plan(x, 0, TRY, 20, 1, DO, 1, 0, DO, 2, 0);
        runIs("a try around a plan", x, 9, 1, 20);
        due("an empty plan is at work", 2, x.count(2));
        plan(x, 0, ADD, 1, 0, DO, 0, 0);
        runIs("a plan within itself", x, 0, -17, 4);
        due("four at work", 4, x.count(2));
        due("the refused step began", 8, x.count(0));
        plan(x, 0, DO, 1, 0, DO, 1, 0);
        plan(x, 1, DO, 2, 0, DO, 2, 0);
        plan(x, 2, DO, 3, 0, DO, 3, 0);
        plan(x, 3, ADD, 1, 0);
        runIs("four deep, again and again", x, 0, 1, 8);
        plan(x, 0, ADD, 1, 0);
        runIs("one plan behind four", x, 0, 1, 1);
        due("one at work", 1, x.count(2));
    }

    private static void promise7Seek() {
        SafeDesk x = planned(SEEK, 1, 10);
        x.safe(0, 0, 50);
        runIs("seek among none", x, 9, 1, -1);
        x.safe(2, 0, 9);
        x.safe(4, 1, 10);
        x.safe(5, 2, 99);
        runIs("seek", x, 9, 1, 4);
        safeIs("in front", x, 0, 0, 50, 0, 0, 0, 0);
        safeIs("passed", x, 2, 0, 9, 0, 1, 0, 1);
        safeIs("found", x, 4, 1, 10, 0, 1, 0, 1);
        safeIs("behind", x, 5, 2, 99, 0, 0, 0, 0);
        traceIs("seek", x, 113);
        plan(x, 0, SEEK, 0, 100);
        runIs("seek too many", x, 9, 1, -1);
        due("all were entered", 1, x.told(5, ENTRIES));
        plan(x, 0, ENTER, 2, 1, SEEK, 2, MIN);
        runIs("seek inside", x, 9, 1, 2);
        due("deeper", 2, x.told(2, MOST));
        plan(x, 0, SEEK, 7, 0);
        x.share(2, 7);
        runIs("seek in the last room", x, 9, 1, 7);
    }

    private static SafeDesk manySteps() {
        SafeDesk x = planned(TRY, 0, 11, ENTER, 0, 11, DO, 1, 0, DO, 1, 0);
        plan(x, 1, DO, 2, 0, DO, 2, 0, DO, 2, 0, DO, 2, 0, DO, 2, 0, DO, 2, 0, DO, 2, 0, DO, 2, 0);
        plan(x, 2, ADD, 1, 0, ADD, 1, 0, ADD, 1, 0, ADD, 1, 0, ADD, 1, 0, ADD, 1, 0, ADD, 1, 0, ADD, 1, 0,
            ADD, 1, 0, ADD, 1, 0, ADD, 1, 0, ADD, 1, 0);
        x.safe(0, 0, 1);
        return x;
    }

    private static void promise7Spent() {
        SafeDesk x = manySteps();
        // 2 + (1 + 8 * 13) + (1 + 7 * 13) are 199 steps; the 200th is a DO whose first ADD is one too many.
        runIs("spent", x, 0, -50, 8 * 12 + 7 * 12);
        due("200 began", 200, x.count(0));
        due("the trace is full", 120, x.trace(-1));
        due("it starts with the try", 101, x.trace(0));
        due("its last number", 111, x.trace(119));
        due("trace(120)", -1, x.trace(120));
        safeIs("left though spent", x, 0, 0, 1, 0, 1, 0, 1);
        x.clear(1);
        runIs("a later run counts anew", x, 0, 1, 0);
        traceIs("a later run", x, 101, 100, 1, 112, 112, 2);
    }

    private static void promise7SpentEdge() {
        SafeDesk x = new SafeDesk();
        plan(x, 0, DO, 1, 0, DO, 2, 0);
        plan(x, 1, DO, 3, 0, DO, 3, 0, DO, 3, 0, DO, 3, 0, DO, 3, 0, DO, 3, 0, DO, 3, 0, DO, 3, 0, DO, 3, 0,
            DO, 3, 0, DO, 3, 0, DO, 3, 0);
        plan(x, 2, DO, 3, 0, DO, 3, 0, ADD, 1, 0, ADD, 1, 0, ADD, 1, 0, ADD, 1, 0);
        plan(x, 3, ADD, 1, 0, ADD, 1, 0, ADD, 1, 0, ADD, 1, 0, ADD, 1, 0, ADD, 1, 0, ADD, 1, 0, ADD, 1, 0,
            ADD, 1, 0, ADD, 1, 0, ADD, 1, 0, ADD, 1, 0);
        // 2 + 12 * 13 + 2 * 13 + 4 = 188
        runIs("188 steps", x, 0, 1, 14 * 12 + 4);
        due("188 began", 188, x.count(0));
        plan(x, 0, DO, 1, 0, DO, 2, 0, ADD, 1, 0, ADD, 1, 0, ADD, 1, 0, ADD, 1, 0, ADD, 1, 0, ADD, 1, 0, ADD, 1, 0,
            ADD, 1, 0, ADD, 1, 0, ADD, 1, 0);
        due("one more in plan 2", 7, x.step(2, ADD, 1, 0));
        due("two more in plan 2", 8, x.step(2, ADD, 1, 0));
        runIs("200 steps", x, 0, 1, 14 * 12 + 16);
        due("200 began and ended well", 200, x.count(0));
        due("three more in plan 2", 9, x.step(2, ADD, 1, 0));
        runIs("201 steps", x, 0, -50, 14 * 12 + 16);
        due("the 201st did not begin", 200, x.count(0));
    }

    private static void promise8And9() {
        SafeDesk x = planned(ADD, 1, 0, FAIL, 20, 0);
        due("value before a run", 0, x.value());
        due("trace before a run", 0, x.trace(-1));
        due("trace(0) before a run", -1, x.trace(0));
        runIs("value stays behind a failure", x, 6, -30, 7);
        traceIs("trace", x, 111, 109);
        for (int bad : new int[] {MIN, -2, 2, 120, MAX}) {
            due("trace(" + bad + ")", -1, x.trace(bad));
        }
        x.clear(0);
        runIs("value of an empty plan", x, -6, 1, -6);
        traceIs("an empty plan", x);
    }

    private static void promise10Told() {
        SafeDesk x = new SafeDesk();
        x.safe(3, 2, 44);
        safeIs("told", x, 3, 2, 44, 0, 0, 0, 0);
        for (int bad : new int[] {MIN, -1, 6, MAX}) {
            due("told what " + bad, -1, x.told(3, bad));
        }
        for (int bad : new int[] {MIN, -1, 2, 4, 8, MAX}) {
            due("told of room " + bad, -1, x.told(bad, 1));
        }
        x.share(3, 4);
        plan(x, 0, PUT, 4, 1);
        x.run(0, 0);
        due("turn through the other room", 2, x.told(3, TURN));
    }

    private static void promise11Count() {
        SafeDesk x = planned(ADD, 1, 0, FAIL, 23, 0);
        due("most plans before a run", 0, x.count(2));
        x.run(0, 0);
        due("steps", 2, x.count(0));
        due("failure", 23, x.count(1));
        due("most plans", 1, x.count(2));
        x.run(5, 0);
        due("steps of an empty plan", 0, x.count(0));
        due("no failure any more", 0, x.count(1));
        due("an empty plan is at work", 1, x.count(2));
        x.safe(0, 0, 0);
        x.share(0, 7);
        due("rooms, not safes", 2, x.count(3));
        for (int plan = 0; plan < 6; plan++) {
            x.clear(plan);
            for (int i = 0; i <= plan; i++) {
                x.step(plan, ADD, 1, 0);
            }
        }
        for (int plan = 0; plan < 6; plan++) {
            due("steps of plan " + plan, plan + 1, x.count(4 + plan));
        }
        for (int bad : new int[] {MIN, MIN + 3, -1, 10, MAX}) {
            due("count(" + bad + ")", -1, x.count(bad));
        }
    }

    public static void main(String[] args) {
        due("BAD", -1, SafeDesk.BAD);
        due("FULL", -2, SafeDesk.FULL);
        promise1New();
        promise2Safe();
        promise3Share();
        promise4Same();
        promise5StepInputs();
        promise5StepFull();
        promise6Clear();
        promise7RunBad();
        promise7Members();
        promise7PutEdges();
        promise7Give();
        promise7GiveToNone();
        promise7RoomsModulo();
        promise7Enter();
        promise7EnterEnds();
        promise7Try();
        promise7Numbers();
        promise7Do();
        promise7Seek();
        promise7Spent();
        promise7SpentEdge();
        promise8And9();
        promise10Told();
        promise11Count();
        end();
    }
}

/** The boundary cases of RUNS: blocks, PLANS within PLANS, THE TRACE, FAILURES, and what 200 STEPS end. */
public final class SafeDeskRunEdges extends DeskChecks {
    private static final int[] HELD = {1, 6, 7, 20, 21, 22, 23, 30};

    private static void planWithoutSteps() {
        says("RUN", "A RUN of a PLAN with a VALUE (an int) does its STEPS one after the other");
        for (int plan : new int[] {0, 5}) {
            for (int value : new int[] {MIN, 0, MAX}) {
                SafeDesk x = new SafeDesk();
                due("run of a PLAN without STEPS", DONE, x.run(plan, value));
                due("its value", value, x.value());
                due("its steps", 0, x.count(0));
                due("its failure", 0, x.count(1));
                due("PLANS at work", 1, x.count(2));
                traceIs("without steps", x);
            }
        }
    }

    private static void fullPlan() {
        says("PLANS", "PLANS 0 .. 5 have up to 12 STEPS");
        SafeDesk x = planned(ADD, 1, 0, ADD, 2, 0, ADD, 4, 0, ADD, 8, 0, ADD, 16, 0, ADD, 32, 0, ADD, 64, 0,
            ADD, 128, 0, ADD, 256, 0, ADD, 512, 0, ADD, 1024, 0, DIVIDE, 3, 0);
        runIs("a FULL plan, in order", x, 1, DONE, 2048 / 3);
        due("all its steps", 12, x.count(0));
        traceIs("a FULL plan", x, 111, 111, 111, 111, 111, 111, 111, 111, 111, 111, 111, 108);
    }

    private static void eachKindInTrace() {
        says("THE TRACE", "each that begins is counted, and leaves its number 100 + kind in THE TRACE");
        SafeDesk x = planned(ENTER, 0, 11, TRY, 0, 10, PUT, 0, 0, WORTH, 0, 0, GIVE, 0, 0, GET, 1, 0, EMPTY, 1, 0,
            DEPTH, 0, 0, DIVIDE, 1, 0, ADD, 0, 0, DO, 5, 0, SEEK, 0, 0);
        x.safe(0, SAFE, 0);
        runIs("all kinds but two", x, 0, DONE, 0);
        traceIs("all kinds but two", x, 100, 1, 101, 102, 103, 104, 105, 106, 107, 108, 111, 112, 113, 2);
        due("its steps", 12, x.count(0));
        plan(x, 0, TRY, 0, 1, FAIL, 20, 0, BACK, 0, 0, ADD, 1, 0);
        runIs("the other two", x, 0, DONE, 0);
        traceIs("the other two", x, 101, 109, 110);
        due("its steps", 3, x.count(0));
    }

    /** A desk with a safe in room 0, whose plan 0 leaves 117 numbers in the trace, and then does these steps. */
    private static SafeDesk longTrace(int... steps) {
        SafeDesk x = new SafeDesk();
        x.safe(0, SAFE, 5);
        planOf(x, 0, 9, DO, 1);
        planOf(x, 1, 12, ADD, 1);
        add(x, 0, steps);
        return x;
    }

    private static void traceEndsWith(SafeDesk x, int answer, int steps, int... want) {
        due("run", answer, x.run(0, 0));
        due("steps that began", steps, x.count(0));
        due("trace(-1)", 117 + want.length, x.trace(-1));
        due("trace(0)", 112, x.trace(0));
        due("trace(116)", 111, x.trace(116));
        for (int i = 0; i < want.length; i++) {
            due("trace(" + (117 + i) + ")", want[i], x.trace(117 + i));
        }
        due("trace behind its end", BAD, x.trace(117 + want.length));
        due("DEPTH", 0, x.told(0, DEEP));
    }

    private static void traceIsFull() {
        says("THE TRACE", "THE TRACE (120 at most; more are lost)");
        traceEndsWith(longTrace(ADD, 1, 0, WORTH, 0, 0), DONE, 119, 111, 103);
        traceEndsWith(longTrace(ADD, 1, 0, ADD, 1, 0, WORTH, 0, 0), DONE, 120, 111, 111, 103);
        says("THE TRACE, the 2 is the 120th, then the 121st", "(120 at most; more are lost)");
        traceEndsWith(longTrace(ENTER, 0, 1), DONE, 118, 100, 1, 2);
        traceEndsWith(longTrace(ENTER, 0, 1, ADD, 1, 0), DONE, 119, 100, 1, 111);
        says("THE TRACE, the 1 is the 120th, then the 121st", "(120 at most; more are lost)");
        traceEndsWith(longTrace(ADD, 1, 0, ENTER, 0, 1, ADD, 1, 0), DONE, 120, 111, 100, 1);
        traceEndsWith(longTrace(ADD, 1, 0, ADD, 1, 0, ENTER, 0, 1), DONE, 120, 111, 111, 100);
        says("THE TRACE, STEPS whose numbers are lost are done", "(120 at most; more are lost)");
        SafeDesk x = longTrace(DO, 2, 0, DO, 2, 0, DO, 3, 0);
        planOf(x, 2, 12, ADD, 1000);
        plan(x, 3, WORTH, 0, 0, FAIL, 23, 0);
        traceEndsWith(x, -33, 117 + 13 + 13 + 3, 112, 111, 111);
        due("value of a step whose number is lost", 5, x.value());
        due("entered by a step whose number is lost", 1, x.told(0, ENTRIES));
    }

    private static void traceOfTheLatest() {
        says("9 trace", "THE TRACE of the latest RUN: k -1 how many numbers, else its k-th.");
        SafeDesk x = longTrace(ADD, 1, 0, ADD, 1, 0, WORTH, 0, 0);
        x.run(0, 0);
        due("full", 120, x.trace(-1));
        due("its last", 103, x.trace(119));
        due("behind it", BAD, x.trace(120));
        due("before it", BAD, x.trace(-2));
        plan(x, 0, SEEK, 0, 0);
        x.run(0, 0);
        traceIs("a shorter run behind it", x, 113);
        due("of the earlier run", BAD, x.trace(119));
        x.run(5, 0);
        traceIs("an empty run behind it", x);
        due("of the earlier run", BAD, x.trace(0));
    }

    private static void enterNone() {
        says("STEPS", "FAILURE 1 NULL, and nothing is entered, if it has none");
        SafeDesk x = planned(ENTER, 7, 2, ADD, 1, 0, ADD, 2, 0);
        x.safe(0, SAFE, 5);
        runIs("enter of none", x, 40, NULL, 40);
        traceIs("enter of none", x, 100);
        due("one step began", 1, x.count(0));
        plan(x, 0, TRY, 1, 1, ENTER, 7, 2, ADD, 10, 0, DEPTH, 0, 0);
        runIs("held: it goes on behind what is tried", x, 40, DONE, 0);
        traceIs("held", x, 101, 100, 111, 107);
        plan(x, 0, ENTER, 0, 3, ENTER, 7, 1, ADD, 1, 0, ADD, 1, 0);
        runIs("enter of none inside", x, 40, NULL, 40);
        traceIs("enter of none inside", x, 100, 1, 100, 2);
        safeIs("the outer one is left", x, 0, SAFE, 5, 0, 1, 0, 1);
    }

    private static void blocks() {
        says("STEPS",
            "the next b STEPS (1 .. 11, as far as there are in what is at work) are done, then that "
            + "very SAFE is LEFT");
        SafeDesk x = planned(ENTER, 0, 1, DEPTH, 0, 0, DEPTH, 0, 0);
        x.safe(0, SAFE, 5);
        runIs("b 1", x, 9, DONE, 0);
        traceIs("b 1", x, 100, 1, 107, 2, 107);
        plan(x, 0, ENTER, 0, 2, DEPTH, 0, 0, DEPTH, 0, 0);
        runIs("b as many as there are", x, 9, DONE, 1);
        traceIs("b as many as there are", x, 100, 1, 107, 107, 2);
        plan(x, 0, ENTER, 0, 3, DEPTH, 0, 0, DEPTH, 0, 0);
        runIs("b one more than there are", x, 9, DONE, 1);
        traceIs("b one more than there are", x, 100, 1, 107, 107, 2);
        for (int b = 1; b <= 11; b += 10) {
            plan(x, 0, ADD, 1, 0, ENTER, 0, b);
            runIs("none is behind it", x, 9, DONE, 10);
            traceIs("none is behind it", x, 111, 100, 1, 2);
        }
        plan(x, 0, ENTER, 0, 11, ADD, 1, 0, ADD, 1, 0, ADD, 1, 0, ADD, 1, 0, ADD, 1, 0, ADD, 1, 0, ADD, 1, 0,
            ADD, 1, 0, ADD, 1, 0, ADD, 1, 0, DEPTH, 0, 0);
        runIs("b 11 of 11", x, 9, DONE, 1);
        due("2 is last", 2, x.trace(13));
        add(x, 1, ENTER, 0, 10, ADD, 1, 0, ADD, 1, 0, ADD, 1, 0, ADD, 1, 0, ADD, 1, 0, ADD, 1, 0, ADD, 1, 0,
            ADD, 1, 0, ADD, 1, 0, ADD, 1, 0, DEPTH, 0, 0);
        due("b 10 of 11", DONE, x.run(1, 9));
        due("the last is outside", 0, x.value());
    }

    private static void blocksInBlocks() {
        says("STEPS", "(1 .. 11, as far as there are in what is at work)");
        SafeDesk x = planned(ENTER, 0, 2, ENTER, 1, 11, ADD, 1, 0, DEPTH, 1, 0, ADD, 5, 0);
        x.safe(0, SAFE, 5);
        x.safe(1, SAFE, 5);
        runIs("an ENTER in an ENTER", x, 9, DONE, 5);
        traceIs("an ENTER in an ENTER", x, 100, 1, 100, 1, 111, 2, 2, 107, 111);
        plan(x, 0, ENTER, 0, 2, TRY, 0, 11, ADD, 1, 0, FAIL, 20, 0, ADD, 1, 0);
        runIs("a TRY in an ENTER", x, 9, -30, 10);
        plan(x, 0, TRY, 0, 2, ENTER, 0, 11, ADD, 1, 0, DEPTH, 0, 0, ADD, 5, 0);
        runIs("an ENTER in a TRY", x, 9, DONE, 5);
        plan(x, 0, TRY, 0, 2, TRY, 20, 11, FAIL, 21, 0, ADD, 1, 0);
        runIs("a TRY in a TRY", x, 9, DONE, 22);
        plan(x, 0, ENTER, 0, 1, ENTER, 0, 1, DEPTH, 0, 0);
        runIs("an ENTER at its block's end has none", x, 9, DONE, 0);
        traceIs("an ENTER at its block's end has none", x, 100, 1, 100, 1, 2, 2, 107);
        says("STEPS, a PLAN that is done within", "as far as there are in what is at work");
        plan(x, 0, DO, 1, 0, DEPTH, 0, 0);
        plan(x, 1, ADD, 1, 0, ENTER, 0, 11);
        runIs("a block does not go on behind its PLAN", x, 9, DONE, 0);
        traceIs("a block does not go on behind its PLAN", x, 112, 111, 100, 1, 2, 107);
    }

    private static void leftWhicheverWay() {
        says("STEPS", "then that very SAFE is LEFT (whatever ROOM a has by then), whichever way they end");
        int[][] inside = {{EMPTY, 0, 0}, {GET, 0, 1}, {GET, 0, 2}, {GET, 0, 0}};
        int[][] ends = {{ADD, 0, 0}, {FAIL, 20, 0}, {BACK, 3, 0}, {DIVIDE, 0, 0}};
        int[] answers = {DONE, -30, DONE, -16};
        for (int[] in : inside) {
            for (int i = 0; i < ends.length; i++) {
                int[] out = ends[i];
                SafeDesk x = planned(ENTER, 0, 2, in[0], in[1], in[2], out[0], out[1], out[2]);
                x.safe(0, TIMED, 5);
                x.share(0, 4);
                x.safe(2, SAFE, 6);
                due("run", answers[i], x.run(0, 0));
                traceIs("left", x, 100, 1, 100 + in[0], 100 + out[0], 2);
                safeIs("that very SAFE", x, 4, TIMED, 5, 0, 1, 0, 1);
                safeIs("no other SAFE", x, 2, SAFE, 6, 0, 0, 0, 0);
            }
        }
    }

    private static void innermostFirst() {
        says("What it is", "each safe that was entered is left once, the innermost first");
        int[][] ends = {{DEPTH, 0, 0}, {FAIL, 22, 0}, {BACK, 11, 0}};
        int[] answers = {DONE, -32, DONE};
        int[] values = {11, 0, 11};
        for (int i = 0; i < ends.length; i++) {
            SafeDesk x = planned(ENTER, 0, 11, ENTER, 0, 11, ENTER, 0, 11, ENTER, 0, 11, ENTER, 0, 11, ENTER, 0, 11,
                ENTER, 0, 11, ENTER, 0, 11, ENTER, 0, 11, ENTER, 0, 11, ENTER, 0, 11, ends[i][0], ends[i][1], 0);
            x.safe(0, SAFE, 5);
            runIs("eleven times entered", x, 0, answers[i], values[i]);
            traceIs("eleven times entered", x, 100, 1, 100, 1, 100, 1, 100, 1, 100, 1, 100, 1, 100, 1, 100, 1, 100, 1,
                100, 1, 100, 1, 100 + ends[i][0], 2, 2, 2, 2, 2, 2, 2, 2, 2, 2, 2);
            safeIs("eleven times entered", x, 0, SAFE, 5, 0, 11, 0, 11);
        }
    }

    /** Room 0 has a safe without coins, room 7 none; plans 1 to 3 end in one plan too many. */
    private static SafeDesk failing(int held, int failure) {
        SafeDesk x = planned(TRY, held, 2);
        switch (failure) {
            case 1 -> add(x, 0, WORTH, 7, 0);
            case 6 -> add(x, 0, DIVIDE, 0, 0);
            case 7 -> add(x, 0, DO, 1, 0);
            case 30 -> add(x, 0, PUT, 0, -1);
            default -> add(x, 0, FAIL, failure, 0);
        }
        add(x, 0, ADD, 1000, 0, ADD, 100, 0);
        x.safe(0, SAFE, 0);
        plan(x, 1, DO, 2, 0);
        plan(x, 2, DO, 3, 0);
        plan(x, 3, DO, 4, 0);
        return x;
    }

    private static void tries() {
        says("STEPS",
            "a FAILURE in them that is a (a 0: any) ends them, VALUE is its number; it goes on behind them.");
        for (int failure : HELD) {
            runIs("TRY 0 of " + failure, failing(0, failure), 9, DONE, failure + 100);
            for (int held : HELD) {
                boolean holds = held == failure;
                runIs("TRY " + held + " of " + failure, failing(held, failure), 9, holds ? DONE : -10 - failure,
                    holds ? failure + 100 : 9);
            }
        }
        says("STEPS", "TRY: the next b STEPS (likewise)");
        SafeDesk x = planned(TRY, 0, 1, ADD, 1, 0, FAIL, 20, 0);
        runIs("a FAILURE behind b 1", x, 9, -30, 10);
        plan(x, 0, TRY, 0, 2, ADD, 1, 0, FAIL, 20, 0);
        runIs("a FAILURE as the last of b", x, 9, DONE, 20);
        plan(x, 0, TRY, 0, 11, FAIL, 20, 0);
        runIs("b more than there are", x, 9, DONE, 20);
        for (int b = 1; b <= 11; b += 10) {
            plan(x, 0, TRY, 0, b);
            runIs("none is behind it", x, 9, DONE, 9);
            traceIs("none is behind it", x, 101);
        }
        plan(x, 0, TRY, 0, 11, ADD, 1, 0, ADD, 1, 0, ADD, 1, 0, ADD, 1, 0, ADD, 1, 0, ADD, 1, 0, ADD, 1, 0,
            ADD, 1, 0, ADD, 1, 0, ADD, 1, 0, FAIL, 23, 0);
        runIs("a FAILURE as the last of 11", x, 9, DONE, 23);
        plan(x, 0, TRY, 0, 2, ADD, 1, 0, ADD, 1, 0, ADD, 1, 0);
        runIs("no FAILURE", x, 9, DONE, 12);
    }

    private static void numbers() {
        says("STEPS", "VALUE by a (cut; FAILURE 6 DIVISION)");
        int[][] cuts = {{7, 2, 3}, {-7, 2, -3}, {7, -2, -3}, {-7, -2, 3}, {1, 2, 0}, {-1, 2, 0}, {0, MIN, 0},
            {MIN, 1, MIN}, {MIN, MIN, 1}, {MIN, MAX, -1}, {MAX, MIN, 0}, {MAX, -1, -MAX}};
        for (int[] c : cuts) {
            runIs(c[0] + " by " + c[1], planned(DIVIDE, c[1], 0), c[0], DONE, c[2]);
        }
        for (int value : new int[] {MIN, 0, MAX}) {
            runIs(value + " by 0", planned(DIVIDE, 0, 5), value, -16, value);
        }
        says("STEPS", "ints that run over");
        runIs("the least by -1", planned(DIVIDE, -1, 0), MIN, DONE, MIN);
        runIs("the greatest and 1", planned(ADD, 1, 0), MAX, DONE, MIN);
        runIs("the least and -1", planned(ADD, -1, 0), MIN, DONE, MAX);
        runIs("the greatest twice", planned(ADD, MAX, 0), MAX, DONE, -2);
        runIs("the least twice", planned(ADD, MIN, 0), MIN, DONE, 0);
        says("STEPS", "BACK: the RUN ends, VALUE is a");
        for (int a : new int[] {MIN, -1, 0, MAX}) {
            SafeDesk x = planned(ADD, 1, 0, BACK, a, 5, ADD, 1, 0);
            runIs("BACK " + a, x, 9, DONE, a);
            traceIs("BACK " + a, x, 111, 110);
        }
        says("FAILURES", "A RUN that ends by a FAILURE tells -10 less it.");
        for (int a = 20; a <= 23; a++) {
            SafeDesk x = planned(ADD, 1, 0, FAIL, a, 5, ADD, 1, 0);
            runIs("FAIL " + a, x, 9, -10 - a, 10);
            traceIs("FAIL " + a, x, 111, 109);
        }
    }

    private static void roomsModulo() {
        int[] numbers = {MIN, -9, -8, -7, -1, 0, 1, 7, 8, 9, MAX};
        int[] rooms = {0, 7, 0, 1, 7, 0, 1, 7, 0, 1, 7};
        for (int i = 0; i < numbers.length; i++) {
            says("STEPS", "ROOM a gets what ROOM b has (b modulo 8; perhaps none)");
            SafeDesk x = planned(GET, 3, numbers[i]);
            x.safe(rooms[i], SAFE, 5);
            runIs("GET " + numbers[i], x, 0, DONE, 0);
            due("got what ROOM " + rooms[i] + " has", 1, x.same(3, rooms[i]));
            due("got it", 5, x.told(3, COINS));
            SafeDesk none = planned(GET, 3, numbers[i]);
            none.safe(3, SAFE, 5);
            runIs("GET none " + numbers[i], none, 0, DONE, 0);
            due("got none", BAD, none.told(3, KIND));
            says("STEPS", "ROOM a's SAFE GIVES VALUE to ROOM b's (b modulo 8");
            SafeDesk y = planned(GIVE, 3, numbers[i]);
            y.safe(3, SAFE, 5);
            y.safe(rooms[i], SAFE, 0);
            runIs("GIVE to " + numbers[i], y, 4, DONE, 4);
            due("given to ROOM " + rooms[i], 4, y.told(rooms[i], COINS));
        }
        says("STEPS", "ROOM a has none any more");
        SafeDesk x = planned(EMPTY, 0, 0, EMPTY, 0, 0, EMPTY, 7, 0);
        x.safe(0, SAFE, 5);
        x.share(0, 1);
        runIs("EMPTY, of none too", x, 9, DONE, 9);
        due("none any more", BAD, x.told(0, KIND));
        due("the other ROOM has it", 5, x.told(1, COINS));
    }

    /** Plan 0 does 1, that does 2, that does 3; the last one has these steps. */
    private static SafeDesk fourPlans(int... steps) {
        SafeDesk x = planned(DO, 1, 0, ADD, 1, 0);
        plan(x, 1, DO, 2, 0, ADD, 10, 0);
        plan(x, 2, DO, 3, 0, ADD, 100, 0);
        plan(x, 3, steps);
        return x;
    }

    private static void plansAtWork() {
        says("STEPS", "DO PLAN a (0 .. 5): FAILURE 7 if 4 PLANS are at work; else it is done within");
        SafeDesk x = fourPlans(ADD, 1000, 0);
        runIs("the fourth", x, 0, DONE, 1111);
        due("4 at work", 4, x.count(2));
        x = fourPlans(ADD, 1000, 0, DO, 5, 0, ADD, 1000, 0);
        runIs("a fifth", x, 0, PLANS, 1000);
        due("no more than 4 at work", 4, x.count(2));
        traceIs("a fifth", x, 112, 112, 112, 111, 112);
        x = fourPlans(TRY, 7, 1, DO, 5, 0, ADD, 1000, 0);
        runIs("a fifth, held at once", x, 0, DONE, 1118);
        plan(x, 3, DO, 3, 0);
        runIs("a fifth that is the fourth", x, 0, PLANS, 0);
        plan(x, 0, DO, 0, 0);
        runIs("one PLAN four times", x, 9, PLANS, 9);
        traceIs("one PLAN four times", x, 112, 112, 112, 112);
        due("one PLAN four times at work", 4, x.count(2));
        plan(x, 0, DO, 5, 0, DO, 5, 0, DO, 5, 0, DO, 5, 0, DO, 5, 0);
        runIs("one behind the other", x, 9, DONE, 9);
        due("2 at work, one of them without STEPS", 2, x.count(2));
        x.run(5, 0);
        due("1 at work", 1, x.count(2));
    }

    private static void plansEnd() {
        says("STEPS", "BACK ends just that one");
        SafeDesk x = fourPlans(BACK, 1000, 0, ADD, 5000, 0);
        runIs("BACK of the fourth", x, 0, DONE, 1111);
        x = fourPlans(TRY, 0, 2, ENTER, 0, 1, BACK, 1000, 0, ADD, 5000, 0);
        x.safe(0, SAFE, 0);
        runIs("BACK of the fourth in a TRY and a SAFE", x, 0, DONE, 1111);
        traceIs("BACK of the fourth in a TRY and a SAFE", x, 112, 112, 112, 101, 100, 1, 110, 2, 111, 111, 111);
        says("STEPS, a PLAN that ended is not at work",
            "FAILURE 7 if 4 PLANS are at work; else it is done within");
        for (int[] end : new int[][] {{BACK, 0, 0}, {FAIL, 20, 0}, {DO, 5, 0}, {ADD, 0, 0}}) {
            x = fourPlans(end);
            plan(x, 0, TRY, 0, 1, DO, 1, 0, TRY, 0, 1, DO, 1, 0, TRY, 0, 1, DO, 1, 0, BACK, 6, 0);
            plan(x, 1, DO, 2, 0);
            plan(x, 2, DO, 3, 0);
            runIs("the fourth, thrice", x, 0, DONE, 6);
            due("4 at work", 4, x.count(2));
            due("all three got as far", 3 + 3 * 4 + 1, x.count(0));
        }
        for (int[] end : new int[][] {{FAIL, 20, 0}, {DO, 5, 0}}) {
            x = fourPlans(end);
            due("a RUN ends by a FAILURE of the fourth", end[0] == FAIL ? -30 : PLANS, x.run(0, 0));
            plan(x, 3, ADD, 1000, 0);
            runIs("the next RUN begins with none at work", x, 0, DONE, 1111);
        }
        says("STEPS, a FAILURE in a PLAN that is done within", "else it is done within");
        x = fourPlans(FAIL, 22, 0);
        runIs("a FAILURE of the fourth", x, 5, -32, 5);
        plan(x, 1, TRY, 22, 1, DO, 2, 0, ADD, 10, 0);
        runIs("held in the second", x, 5, DONE, 33);
    }

    private static void seeks() {
        says("STEPS",
            "of the SAFES that ROOMS a and on have now, each is ENTERED and LEFT, up to the first with "
            + "b COINS or more");
        int[][] rows = {{0, 5, 0}, {0, 6, 7}, {0, 4, 0}, {1, 5, 7}, {7, 9, 7}, {7, 10, -1}, {0, 10, -1}, {0, 0, 0},
            {1, -1, 3}, {4, MIN, 7}, {0, MAX, -1}, {1, 0, 3}, {1, 1, 7}};
        for (int[] r : rows) {
            SafeDesk x = planned(SEEK, r[0], r[1]);
            x.safe(0, SAFE, 5);
            x.safe(3, TIMED, 0);
            x.safe(7, VAULT, 9);
            String what = "SEEK " + r[0] + ", " + r[1];
            runIs(what, x, 50, DONE, r[2]);
            traceIs(what, x, 113);
            for (int room : new int[] {0, 3, 7}) {
                int entered = room >= r[0] && (r[2] < 0 || room <= r[2]) ? 1 : 0;
                due(what + " enters " + room, entered, x.told(room, ENTRIES));
                due(what + " most of " + room, entered, x.told(room, MOST));
                due(what + " leaves " + room, 0, x.told(room, DEEP));
            }
        }
        says("STEPS", "VALUE is its ROOM; -1 if none is.");
        for (int a : new int[] {0, 7}) {
            runIs("SEEK without SAFES", planned(SEEK, a, MIN), 50, DONE, -1);
        }
        SafeDesk x = planned(SEEK, 1, 0);
        x.safe(0, SAFE, MOST_COINS);
        runIs("ROOM 0 is not behind ROOM 7", x, 50, DONE, -1);
        plan(x, 0, SEEK, 0, MOST_COINS);
        runIs("as many COINS as can be", x, 50, DONE, 0);
        plan(x, 0, SEEK, 0, MOST_COINS + 1);
        runIs("one COIN more", x, 50, DONE, -1);
        x.safe(0, SAFE, 3);
        for (int room = 1; room < 8; room++) {
            x.share(0, room);
        }
        plan(x, 0, SEEK, 0, 4);
        runIs("one SAFE in all ROOMS", x, 50, DONE, -1);
        safeIs("one SAFE in all ROOMS", x, 0, SAFE, 3, 0, 8, 0, 1);
    }

    /**
     * A desk with a safe in room 0, whose plan 0 begins so many steps (197 .. 209), and then has these ones.
     * 17 of the first ones are DO, the others ADD 1.
     */
    private static SafeDesk nearlySpent(int begun, int... steps) {
        SafeDesk x = planned(DO, 1, 0, DO, 2, 0, DO, 2, 0, DO, 3, 0, DO, 4, 0);
        planOf(x, 1, 12, DO, 2);
        planOf(x, 2, 12, ADD, 1);
        planOf(x, 3, 12, ADD, 1);
        planOf(x, 4, begun - 197, ADD, 1);
        add(x, 0, steps);
        x.safe(0, SAFE, 5);
        return x;
    }

    private static void spentIs(String what, SafeDesk x, int answer, int value, int steps) {
        runIs(what, x, 0, answer, value);
        due(what + ": steps", steps, x.count(0));
    }

    private static void spent() {
        says("FAILURES",
            "FAILURE 40 SPENT, which no TRY holds: a STEP is to begin, and 200 were in this RUN.");
        spentIs("199", nearlySpent(199), DONE, 182, 199);
        spentIs("200", nearlySpent(200), DONE, 183, 200);
        spentIs("201", nearlySpent(201), SPENT, 183, 200);
        spentIs("199 and an ADD", nearlySpent(199, ADD, 7, 0), DONE, 189, 200);
        spentIs("200 and an ADD", nearlySpent(200, ADD, 7, 0), SPENT, 183, 200);
        spentIs("199 and a FAIL", nearlySpent(199, FAIL, 20, 0), -30, 182, 200);
        spentIs("200 and a FAIL", nearlySpent(200, FAIL, 20, 0), SPENT, 183, 200);
        spentIs("199 and a BACK", nearlySpent(199, BACK, 3, 0, ADD, 1, 0), DONE, 3, 200);
        spentIs("200 and a BACK", nearlySpent(200, BACK, 3, 0), SPENT, 183, 200);
        spentIs("199 and a DO of none", nearlySpent(199, DO, 5, 0), DONE, 182, 200);
        spentIs("199 and a DO of one", nearlySpent(199, DO, 3, 0), SPENT, 182, 200);
        spentIs("199 and an ENTER of none", nearlySpent(199, ENTER, 7, 1), NULL, 182, 200);
        spentIs("200 and an ENTER of none", nearlySpent(200, ENTER, 7, 1), SPENT, 183, 200);
        SafeDesk x = nearlySpent(200, PUT, 0, 1);
        spentIs("200 and a PUT", x, SPENT, 183, 200);
        safeIs("a STEP that did not begin did nothing", x, 0, SAFE, 5, 0, 0, 0, 0);
        spentIs("a RUN behind it counts anew", x, SPENT, 183, 200);
        plan(x, 0, ADD, 1, 0);
        spentIs("a short RUN behind it", x, DONE, 1, 1);
    }

    private static void noTryHoldsSpent() {
        says("FAILURES", "FAILURE 40 SPENT, which no TRY holds");
        spentIs("as the first of a TRY", nearlySpent(199, TRY, 0, 1, ADD, 1, 0), SPENT, 182, 200);
        spentIs("in a TRY", nearlySpent(198, TRY, 0, 2, ADD, 1, 0, ADD, 1, 0, ADD, 1, 0), SPENT, 182, 200);
        spentIs("in two TRYS", nearlySpent(197, TRY, 0, 5, TRY, 0, 4, ADD, 1, 0, ADD, 1, 0), SPENT, 181, 200);
        for (int held : HELD) {
            spentIs("in a TRY " + held, nearlySpent(199, TRY, held, 1, ADD, 1, 0), SPENT, 182, 200);
        }
        spentIs("in a PLAN in a TRY", nearlySpent(197, TRY, 0, 1, DO, 3, 0), SPENT, 181, 200);
        spentIs("another FAILURE is held", nearlySpent(198, TRY, 0, 1, FAIL, 21, 0), DONE, 21, 200);
        spentIs("behind what was held", nearlySpent(198, TRY, 0, 1, FAIL, 21, 0, ADD, 1, 0), SPENT, 21, 200);
        says("STEPS, SPENT in a SAFE", "whichever way they end: 2 is left in THE TRACE.");
        SafeDesk x = nearlySpent(199, ENTER, 0, 1, ADD, 1, 0);
        spentIs("in a SAFE", x, SPENT, 182, 200);
        safeIs("in a SAFE", x, 0, SAFE, 5, 0, 1, 0, 1);
        x = nearlySpent(197, TRY, 0, 3, ENTER, 0, 2, ENTER, 0, 1, ADD, 1, 0);
        spentIs("in two SAFES in a TRY", x, SPENT, 180, 200);
        safeIs("in two SAFES in a TRY", x, 0, SAFE, 5, 0, 2, 0, 2);
        x = nearlySpent(199, ENTER, 0, 11);
        spentIs("a SAFE without STEPS", x, DONE, 182, 200);
        safeIs("a SAFE without STEPS", x, 0, SAFE, 5, 0, 1, 0, 1);
    }

    private static void whatStaysDone() {
        says("FAILURES", "What a FAILURE did before it stays done (ROOMS, COINS, TURNS, ENTRIES, VALUE).");
        for (int held = 0; held <= 1; held++) {
            SafeDesk x = planned(TRY, held == 1 ? 0 : 23, 9, ENTER, 0, 8, GET, 5, 0, EMPTY, 0, 0, PUT, 5, 4, ADD, 3, 0,
                PUT, 5, MAX, ADD, 100, 0);
            x.safe(0, TIMED, 6);
            runIs("SHORT", x, 9, held == 1 ? DONE : -40, held == 1 ? 30 : 12);
            due("ROOM 0 has none", BAD, x.told(0, KIND));
            safeIs("ROOM 5 has it", x, 5, TIMED, 10, 2, 5, 0, 3);
            due("its steps", 7, x.count(0));
        }
    }

    private static void latestRun() {
        says("11 count",
            "What = 0 STEPS of the latest RUN, 1 the FAILURE by which it ended (0), 2 the most PLANS");
        SafeDesk x = fourPlans(FAIL, 23, 0);
        x.run(0, 5);
        due("steps", 4, x.count(0));
        due("failure", 23, x.count(1));
        due("plans", 4, x.count(2));
        due("value", 5, x.value());
        x.run(5, -5);
        due("steps anew", 0, x.count(0));
        due("no failure anew", 0, x.count(1));
        due("plans anew", 1, x.count(2));
        due("value anew", -5, x.value());
        plan(x, 0, TRY, 0, 1, FAIL, 20, 0);
        x.run(0, 5);
        due("a FAILURE that was held ended no RUN", 0, x.count(1));
    }

    private static void fiveHundredAndTwelve() {
        says("What it is", "An object is used for at most 512 calls after it has been made");
        SafeDesk x = new SafeDesk();
        due("call 1", 1, x.safe(0, VAULT, 0));
        due("call 2", 1, x.step(0, GIVE, 0, 0));
        due("call 3", 2, x.step(0, DO, 0, 0));
        for (int call = 4; call <= 509; call++) {
            due("call " + call, PLANS, x.run(0, 0));
        }
        due("call 510", 506 * 16, x.told(0, TURN));
        due("call 511", 506 * 44, x.told(0, ENTRIES));
        due("call 512", 0, x.told(0, DEEP));
    }

    public static void main(String[] args) {
        planWithoutSteps();
        fullPlan();
        eachKindInTrace();
        traceIsFull();
        traceOfTheLatest();
        enterNone();
        blocks();
        blocksInBlocks();
        leftWhicheverWay();
        innermostFirst();
        tries();
        numbers();
        roomsModulo();
        plansAtWork();
        plansEnd();
        seeks();
        spent();
        noTryHoldsSpent();
        whatStaysDone();
        latestRun();
        fiveHundredAndTwelve();
        end();
    }
}

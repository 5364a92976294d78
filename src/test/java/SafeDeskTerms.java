/** 'What it is' and 'Terms' in the document's order, each sentence by its own words and in ordinary runs. */
public final class SafeDeskTerms extends DeskChecks {
    /** How the steps inside of safes may end, and what the run answers then; see endings(). */
    private static final int[][] ENDS = {{ADD, 1, 0}, {BACK, 5, 0}, {FAIL, 20, 0}, {WORTH, 7, 0}, {DIVIDE, 0, 0},
        {DO, 2, 0}, {PUT, 6, -1}, {DO, 3, 0}};
    private static final int[] END_ANSWERS = {DONE, DONE, -30, NULL, DIVISION, PLANS, SHORT, SPENT};

    private static void oneWithinAnother() {
        says("What it is", "Safes in rooms that are entered one within another");
        for (int room = 0; room < 3; room++) {
            SafeDesk x = planned(ENTER, 0, 3, ENTER, 1, 2, ENTER, 2, 1, DEPTH, room, 0);
            x.safe(0, SAFE, 5);
            x.safe(1, TIMED, 5);
            x.safe(2, VAULT, 5);
            runIs("DEPTH of ROOM " + room + " inside of all three", x, 9, DONE, 1);
            traceIs("inside of all three", x, 100, 1, 100, 1, 100, 1, 107, 2, 2, 2);
        }
    }

    private static void someAreNotThere() {
        says("What it is", "plans of steps are done inside of safes, some of which are not there");
        SafeDesk x = planned(TRY, 1, 2, ENTER, 1, 1, ADD, 100, 0, ENTER, 0, 1, ADD, 10, 0);
        x.safe(0, SAFE, 5);
        runIs("inside of one that is not there, then of one that is", x, 9, DONE, 1 + 10);
        traceIs("inside of one that is not there, then of one that is", x, 101, 100, 100, 1, 111, 2);
    }

    /** Room 6 has no coins, room 7 no safe; plan 2 does itself too often, plan 3 begins more than 200 steps. */
    private static SafeDesk endings() {
        SafeDesk x = new SafeDesk();
        x.safe(0, SAFE, 5);
        x.safe(1, SAFE, 5);
        x.safe(6, SAFE, 0);
        plan(x, 2, DO, 2, 0);
        planOf(x, 3, 12, DO, 4);
        planOf(x, 4, 12, DO, 5);
        planOf(x, 5, 12, ADD, 0);
        return x;
    }

    private static void whateverEndsAPlan() {
        says("What it is", "whatever ends a plan, each safe that was entered is left once, the innermost first");
        for (int i = 0; i < ENDS.length; i++) {
            int[] end = ENDS[i];
            SafeDesk x = endings();
            plan(x, 0, ENTER, 0, 2, ENTER, 1, 1, end[0], end[1], end[2]);
            due("run that ends by kind " + end[0], END_ANSWERS[i], x.run(0, 9));
            safeIs("the outer one, kind " + end[0], x, 0, SAFE, 5, 0, 1, 0, 1);
            safeIs("the inner one, kind " + end[0], x, 1, SAFE, 5, 0, 1, 0, 1);
        }
        for (int i = 0; i < ENDS.length; i++) {
            if (END_ANSWERS[i] != SPENT) {
                innerIsLeftFirst(ENDS[i]);
            }
        }
    }

    private static void innerIsLeftFirst(int[] end) {
        for (int room = 0; room <= 1; room++) {
            SafeDesk x = endings();
            plan(x, 0, ENTER, 0, 3, TRY, 0, 1, DO, 1, 0, DEPTH, room, 0);
            plan(x, 1, ENTER, 1, 1, end[0], end[1], end[2]);
            String what = "behind the inner block that ends by kind " + end[0];
            runIs(what + ", DEPTH of ROOM " + room, x, 9, DONE, 1 - room);
            int last = x.trace(-1) - 1;
            due(what + ": 2 of the inner one", 2, x.trace(last - 2));
            due(what + ": 107", 107, x.trace(last - 1));
            due(what + ": 2 of the outer one", 2, x.trace(last));
        }
    }

    private static void membersEnter() {
        says("What it is", "a safe's own members enter it, too, and those of its heirs theirs.");
        int[][] entries = {{1, 2, 5}, {1, 2, 3}, {3, 5, 11}};
        int[] members = {PUT, WORTH, GIVE};
        for (int i = 0; i < members.length; i++) {
            for (int kind = SAFE; kind <= VAULT; kind++) {
                SafeDesk x = planned(members[i], 0, 0);
                x.safe(0, kind, 5);
                due("run", DONE, x.run(0, 0));
                due("ENTRIES of member " + members[i] + " of kind " + kind, entries[i][kind], x.told(0, ENTRIES));
            }
        }
    }

    private static void rooms() {
        says("ROOMS 0 ..", "7 have a SAFE or none (at first)");
        for (int room = 0; room < 8; room++) {
            SafeDesk x = new SafeDesk();
            due("none at first", BAD, x.told(room, KIND));
            due("a SAFE", 1, x.safe(room, TIMED, 3));
            due("its KIND", TIMED, x.told(room, KIND));
            due("no other ROOM has one", 1, x.count(3));
        }
        due("no ROOM -1", BAD, new SafeDesk().safe(-1, SAFE, 0));
        due("no ROOM 8", BAD, new SafeDesk().safe(8, SAFE, 0));
        says("ROOMS", "a SAFE may stand in several ROOMS.");
        SafeDesk x = planned(PUT, 0, 2, PUT, 3, 2, PUT, 7, 2);
        x.safe(0, TIMED, 10);
        x.share(0, 3);
        x.share(3, 7);
        runIs("PUT through each", x, 9, DONE, 9);
        for (int room : new int[] {0, 3, 7}) {
            safeIs("one SAFE in three ROOMS", x, room, TIMED, 16, 3, 6, 0, 2);
        }
    }

    private static void safes() {
        says("SAFES",
            "A SAFE has a KIND (0 SAFE, 1 TIMED, 2 VAULT; a VAULT is a TIMED, that is a SAFE), COINS (an int, 0 "
            + "or more), a TURN (0), ENTRIES (0), a DEPTH (0), the MOST that its DEPTH was (0).");
        for (int kind = SAFE; kind <= VAULT; kind++) {
            SafeDesk x = planned(PUT, 0, -5, TRY, 30, 1, PUT, 0, -1);
            x.safe(0, kind, kind == VAULT ? 10 : 5);
            safeIs("a new one", x, 0, kind, kind == VAULT ? 10 : 5, 0, 0, 0, 0);
            runIs("no COINS below 0", x, 9, DONE, 30);
            due("0 COINS", 0, x.told(0, COINS));
            due("TURN: a VAULT is a TIMED", new int[] {0, 2, 3}[kind], x.told(0, TURN));
        }
        SafeDesk x = planned(ENTER, 0, 3, ENTER, 0, 1, ADD, 1, 0, DEPTH, 0, 0, ENTER, 0, 1, DEPTH, 0, 0);
        x.safe(0, SAFE, 5);
        runIs("DEPTH 2, then 1, 0 and 1", x, 9, DONE, 1);
        safeIs("MOST is the greatest", x, 0, SAFE, 5, 0, 3, 0, 2);
        plan(x, 0, ENTER, 0, 1, ADD, 1, 0);
        runIs("DEPTH 1 in a later RUN", x, 9, DONE, 10);
        due("MOST of all RUNS", 2, x.told(0, MOST));
    }

    private static void enteredAndLeft() {
        says("SAFES", "TO ENTER a SAFE: its DEPTH is 1 more, ENTRIES 1 more. TO LEAVE it: its DEPTH is 1 less.");
        SafeDesk x = planned(ENTER, 0, 1, DEPTH, 0, 0);
        x.safe(0, SAFE, 5);
        runIs("DEPTH in one", x, 9, DONE, 1);
        safeIs("entered once", x, 0, SAFE, 5, 0, 1, 0, 1);
        plan(x, 0, ENTER, 0, 2, ENTER, 0, 1, DEPTH, 0, 0);
        runIs("DEPTH in two", x, 9, DONE, 2);
        safeIs("entered twice more", x, 0, SAFE, 5, 0, 3, 0, 2);
        plan(x, 0, ENTER, 0, 3, ENTER, 0, 1, ADD, 1, 0, DEPTH, 0, 0);
        runIs("DEPTH behind the inner one", x, 9, DONE, 1);
        plan(x, 0, ENTER, 0, 2, ENTER, 0, 1, ADD, 1, 0, DEPTH, 0, 0);
        runIs("DEPTH behind both", x, 9, DONE, 0);
        safeIs("entered four times more", x, 0, SAFE, 5, 0, 7, 0, 2);
    }

    private static void members() {
        says("MEMBERS", "A MEMBER of a SAFE ENTERS it ahead of all and LEAVES it at its end, whichever way:");
        for (int kind = SAFE; kind <= VAULT; kind++) {
            SafeDesk x = planned(PUT, 0, -6);
            x.safe(0, kind, 5);
            runIs("SHORT", x, 9, SHORT, 9);
            safeIs("entered and left, though SHORT", x, 0, kind, 5, kind == SAFE ? 0 : 1, kind + 1, 0, kind + 1);
            plan(x, 0, GIVE, 0, 7);
            runIs("to none", x, 1, NULL, 1);
            due("left, though to none", 0, x.told(0, DEEP));
            due("PUT inside of GIVE", kind + 2, x.told(0, MOST));
            plan(x, 0, ENTER, 0, 2, WORTH, 0, 0, DEPTH, 0, 0);
            runIs("WORTH leaves just what it entered", x, 9, DONE, 1);
        }
    }

    private static void put() {
        SafeDesk x = planned(PUT, 0, 5, PUT, 1, 5, PUT, 2, 5);
        x.safe(0, SAFE, 10);
        x.safe(1, TIMED, 10);
        x.safe(2, VAULT, 10);
        runIs("PUT 5", x, 0, DONE, 0);
        says("MEMBERS",
            "PUT n, of a SAFE: FAILURE 30 SHORT if COINS and n (as longs) are below 0 or above 1000000; "
            + "else COINS are n more.");
        safeIs("PUT of a SAFE", x, 0, SAFE, 15, 0, 1, 0, 1);
        for (int n : new int[] {-16, MOST_COINS - 14, MIN, MAX}) {
            plan(x, 0, PUT, 0, n);
            runIs("PUT " + n, x, 9, SHORT, 9);
            due("COINS behind PUT " + n, 15, x.told(0, COINS));
        }
        says("MEMBERS", "Of a TIMED: TURN is 1 more; then what a SAFE's PUT does (that ENTERS it once more).");
        safeIs("PUT of a TIMED", x, 1, TIMED, 15, 1, 2, 0, 2);
        plan(x, 0, PUT, 1, -16);
        runIs("PUT of a TIMED", x, 9, SHORT, 9);
        safeIs("TURN first", x, 1, TIMED, 15, 2, 4, 0, 2);
        says("MEMBERS", "Of a VAULT: what a TIMED's does, and then that once more.");
        safeIs("PUT of a VAULT", x, 2, VAULT, 20, 2, 5, 0, 3);
        plan(x, 0, PUT, 2, -11);
        runIs("PUT of a VAULT", x, 9, SHORT, 9);
        safeIs("the first of both is done", x, 2, VAULT, 9, 4, 10, 0, 3);
        runIs("PUT of a VAULT", x, 9, SHORT, 9);
        safeIs("no second one behind a FAILURE", x, 2, VAULT, 9, 5, 13, 0, 3);
    }

    private static void worth() {
        int[] puts = {4, 4, 2};
        int[] turns = {0, 1, 2};
        int[] worths = {14, 14 + 1, 2 * (14 + 2)};
        String[] words = {"WORTH, of a SAFE: COINS.", "Of a TIMED: what a SAFE's tells, and TURN.",
            "Of a VAULT: what a TIMED's tells, twice. (ints that run over.)"};
        for (int kind = SAFE; kind <= VAULT; kind++) {
            says("MEMBERS, WORTH", words[kind]);
            SafeDesk x = planned(PUT, 0, puts[kind]);
            x.safe(0, kind, 10);
            x.run(0, 9);
            int entries = x.told(0, ENTRIES);
            plan(x, 0, WORTH, 0, 0);
            runIs("WORTH", x, 9, DONE, worths[kind]);
            safeIs("WORTH", x, 0, kind, 14, turns[kind], entries + kind + 1, 0, kind + 1);
        }
    }

    private static void give() {
        says("MEMBERS",
            "GIVE n to another SAFE (or the same, or none): PUT of it less n (-n as an int), then PUT n of the other "
            + "one");
        SafeDesk x = planned(GIVE, 0, 1);
        x.safe(0, SAFE, 10);
        x.safe(1, TIMED, MOST_COINS - 5);
        runIs("to another", x, 5, DONE, 5);
        safeIs("the giver", x, 0, SAFE, 5, 0, 2, 0, 2);
        safeIs("the other", x, 1, TIMED, MOST_COINS, 1, 2, 0, 2);
        runIs("the giver is SHORT", x, 6, SHORT, 6);
        safeIs("the giver is SHORT", x, 0, SAFE, 5, 0, 4, 0, 2);
        due("the other is not asked", 2, x.told(1, ENTRIES));
        runIs("less than none", x, -7, DONE, -7);
        due("the giver took", 12, x.told(0, COINS));
        due("the other gave", MOST_COINS - 7, x.told(1, COINS));
        runIs("-n as an int", x, MIN, SHORT, MIN);
        safeIs("-n as an int", x, 0, SAFE, 12, 0, 8, 0, 2);
        due("-n as an int is SHORT ahead of the other", 4, x.told(1, ENTRIES));
        plan(x, 0, GIVE, 0, 0);
        runIs("to the same", x, 12, DONE, 12);
        safeIs("to the same", x, 0, SAFE, 12, 0, 11, 0, 2);
        says("MEMBERS, GIVE",
            "(FAILURE 1 NULL if there is none: what went is back then: a PUT of n; FAILURE 30 of the other one: "
            + "likewise).");
        plan(x, 0, GIVE, 0, 7);
        runIs("to none", x, 12, NULL, 12);
        safeIs("to none", x, 0, SAFE, 12, 0, 14, 0, 2);
        runIs("what it has not, to none", x, 13, SHORT, 13);
        plan(x, 0, GIVE, 0, 1);
        runIs("the other is SHORT", x, 8, SHORT, 8);
        safeIs("back again", x, 0, SAFE, 12, 0, 19, 0, 2);
        safeIs("TURN of the other", x, 1, TIMED, MOST_COINS - 7, 3, 6, 0, 2);
    }

    private static void plans() {
        says("PLANS", "PLANS 0 .. 5 have up to 12 STEPS (kind; a, b; a of 0, 2 to 7, 13 is a ROOM).");
        for (int plan = 0; plan < 6; plan++) {
            SafeDesk x = new SafeDesk();
            planOf(x, plan, 12, ADD, 1 + plan);
            due("a thirteenth STEP", FULL, x.step(plan, ADD, 1, 0));
            due("run", DONE, x.run(plan, 0));
            due("all twelve were done", 12 * (1 + plan), x.value());
        }
        due("no PLAN -1", BAD, new SafeDesk().step(-1, ADD, 1, 0));
        due("no PLAN 6", BAD, new SafeDesk().step(6, ADD, 1, 0));
        SafeDesk x = new SafeDesk();
        for (int kind = 0; kind <= 13; kind++) {
            boolean isOfARoom = kind == ENTER || kind >= PUT && kind <= DEPTH || kind == SEEK;
            boolean isOfAny = kind == DIVIDE || kind == BACK || kind == ADD;
            x.clear(0);
            due("a 7 of kind " + kind, isOfARoom || isOfAny || kind == TRY ? 1 : BAD, x.step(0, kind, 7, 1));
            x.clear(0);
            due("a 8 of kind " + kind, isOfAny ? 1 : BAD, x.step(0, kind, 8, 1));
        }
    }

    private static void runs() {
        says("RUN", "A RUN of a PLAN with a VALUE (an int) does its STEPS one after the other");
        SafeDesk x = planned(ADD, 3, 0, DIVIDE, 2, 0, ADD, -1, 0);
        runIs("with 9", x, 9, DONE, 5);
        runIs("with the least int", x, MIN, DONE, (MIN + 3) / 2 - 1);
        plan(x, 5, ADD, 7, 0);
        due("another PLAN", DONE, x.run(5, 9));
        due("another PLAN", 16, x.value());
        says("RUN",
            "each that begins is counted, and leaves its number 100 + kind in THE TRACE (120 at most; more are lost).");
        x.run(0, 9);
        due("STEPS", 3, x.count(0));
        traceIs("numbers", x, 111, 108, 111);
        plan(x, 0, TRY, 0, 3, ADD, 1, 0, FAIL, 20, 0, ADD, 1, 0);
        x.run(0, 9);
        due("STEPS that began", 3, x.count(0));
        traceIs("of those that began", x, 101, 111, 109);
        planOf(x, 0, 10, DO, 1);
        planOf(x, 1, 12, ADD, 1);
        x.run(0, 9);
        due("130 STEPS", 130, x.count(0));
        due("120 numbers", 120, x.trace(-1));
        due("the 118th is of the tenth DO", 112, x.trace(117));
        due("the 120th", 111, x.trace(119));
        due("the 121st is lost", BAD, x.trace(120));
        due("its STEP was done", 9 + 120, x.value());
    }

    private static void enter() {
        says("STEPS",
            "0 ENTER the SAFE that ROOM a has now (FAILURE 1 NULL, and nothing is entered, if it has none): 1 is left "
            + "in THE TRACE;");
        SafeDesk x = planned(GET, 0, 1, ENTER, 0, 1, DEPTH, 1, 0);
        x.safe(0, SAFE, 5);
        x.share(0, 2);
        x.safe(1, SAFE, 6);
        runIs("what it has now", x, 9, DONE, 1);
        traceIs("what it has now", x, 105, 100, 1, 107, 2);
        due("what it had is not entered", 0, x.told(2, ENTRIES));
        plan(x, 0, ENTER, 7, 1, ADD, 1, 0);
        runIs("none", x, 9, NULL, 9);
        traceIs("none", x, 100);
        says("STEPS",
            "the next b STEPS (1 .. 11, as far as there are in what is at work) are done, then that very SAFE is LEFT "
            + "(whatever ROOM a has by then), whichever way they end: 2 is left in THE TRACE.");
        plan(x, 0, ENTER, 1, 2, ADD, 1, 0, DEPTH, 1, 0, ADD, 20, 0);
        runIs("the next 2", x, 9, DONE, 21);
        traceIs("the next 2", x, 100, 1, 111, 107, 2, 111);
        plan(x, 0, ENTER, 1, 11, ADD, 1, 0, DEPTH, 1, 0);
        runIs("as far as there are", x, 9, DONE, 1);
        traceIs("as far as there are", x, 100, 1, 111, 107, 2);
        plan(x, 0, ENTER, 2, 2, EMPTY, 2, 0, GET, 2, 1, DEPTH, 2, 0);
        x.share(2, 3);
        runIs("it has another by then", x, 9, DONE, 0);
        safeIs("that very SAFE", x, 3, SAFE, 5, 0, 1, 0, 1);
        for (int[] end : new int[][] {{FAIL, 20, -30}, {BACK, 3, DONE}, {DIVIDE, 0, DIVISION}}) {
            plan(x, 0, ENTER, 3, 2, end[0], end[1], 0, ADD, 1, 0);
            due("run", end[2], x.run(0, 9));
            traceIs("whichever way", x, 100, 1, 100 + end[0], 2);
            due("whichever way", 0, x.told(3, DEEP));
        }
    }

    private static void tries() {
        says("STEPS",
            "1 TRY: the next b STEPS (likewise): a FAILURE in them that is a (a 0: any) ends them, VALUE is its "
            + "number; it goes on behind them.");
        SafeDesk x = planned(TRY, 22, 3, ADD, 1, 0, FAIL, 22, 0, ADD, 1, 0, ADD, 100, 0);
        runIs("a FAILURE that is a", x, 9, DONE, 122);
        traceIs("a FAILURE that is a", x, 101, 111, 109, 111);
        plan(x, 0, TRY, 20, 3, ADD, 1, 0, FAIL, 22, 0, ADD, 1, 0, ADD, 100, 0);
        runIs("a FAILURE that is not a", x, 9, -32, 10);
        plan(x, 0, TRY, 0, 3, ADD, 1, 0, FAIL, 22, 0, ADD, 1, 0, ADD, 100, 0);
        runIs("a 0", x, 9, DONE, 122);
        plan(x, 0, TRY, 0, 1, ADD, 1, 0, FAIL, 23, 0);
        runIs("a FAILURE behind them", x, 9, -33, 10);
        plan(x, 0, TRY, 6, 2, TRY, 1, 11, DIVIDE, 0, 0, ADD, 1, 0);
        runIs("one in another", x, 9, DONE, 7);
        plan(x, 0, TRY, 0, 11, BACK, 50, 0, ADD, 1, 0);
        runIs("BACK is no FAILURE", x, 9, DONE, 50);
        traceIs("BACK is no FAILURE", x, 101, 110);
        plan(x, 0, TRY, 0, 11, ADD, 1, 0);
        runIs("no FAILURE", x, 9, DONE, 10);
    }

    /** A step with room 3's safe has to ask what room 3 has by then, and fails by 1 if that is none. */
    private static SafeDesk movedSafe(int kind, int b) {
        SafeDesk x = planned(GET, 3, 1, kind, 3, b);
        x.safe(1, TIMED, 6);
        x.safe(3, SAFE, 100);
        x.share(3, 4);
        SafeDesk none = planned(TRY, 0, 2, GET, 3, 1, kind, 3, b);
        none.safe(0, SAFE, 100);
        none.safe(3, SAFE, 100);
        runIs("NULL of kind " + kind, none, 9, DONE, 1);
        return x;
    }

    private static void stepsWithASafe() {
        says("STEPS", "2 PUT b into ROOM a's SAFE (NULL).");
        SafeDesk x = movedSafe(PUT, 5);
        runIs("PUT", x, 9, DONE, 9);
        safeIs("PUT", x, 3, TIMED, 11, 1, 2, 0, 2);
        safeIs("not into what it had", x, 4, SAFE, 100, 0, 0, 0, 0);
        says("STEPS", "3 WORTH of ROOM a's SAFE becomes VALUE (NULL).");
        runIs("WORTH", movedSafe(WORTH, 0), 9, DONE, 6);
        says("STEPS", "4 ROOM a's SAFE GIVES VALUE to ROOM b's (b modulo 8; NULL if ROOM a has none).");
        for (int b : new int[] {0, 8, -8}) {
            x = movedSafe(GIVE, b);
            x.safe(0, SAFE, 20);
            runIs("GIVE to " + b, x, 2, DONE, 2);
            due("it gave", 4, x.told(3, COINS));
            due("ROOM 0 took", 22, x.told(0, COINS));
        }
        says("STEPS", "7 DEPTH of ROOM a's SAFE becomes VALUE (NULL).");
        runIs("DEPTH outside", movedSafe(DEPTH, 0), 9, DONE, 0);
        x = planned(ENTER, 0, 2, ENTER, 0, 1, DEPTH, 0, 0);
        x.safe(0, SAFE, 5);
        runIs("DEPTH inside", x, 9, DONE, 2);
        due("it is not entered for that", 2, x.told(0, ENTRIES));
    }

    private static void stepsWithRooms() {
        says("STEPS", "5 ROOM a gets what ROOM b has (b modulo 8; perhaps none).");
        for (int b : new int[] {5, 13, -3}) {
            SafeDesk x = planned(GET, 2, b);
            x.safe(5, TIMED, 6);
            runIs("GET " + b, x, 9, DONE, 9);
            due("the same SAFE", 1, x.same(2, 5));
            safeIs("it is not entered for that", x, 2, TIMED, 6, 0, 0, 0, 0);
            x = planned(GET, 2, b);
            x.safe(2, TIMED, 6);
            runIs("none of " + b, x, 9, DONE, 9);
            due("none", BAD, x.told(2, KIND));
        }
        says("STEPS", "6 ROOM a has none any more.");
        SafeDesk x = planned(EMPTY, 2, 0, EMPTY, 4, 0);
        x.safe(2, SAFE, 5);
        x.share(2, 3);
        runIs("EMPTY", x, 9, DONE, 9);
        due("none any more", BAD, x.told(2, KIND));
        due("another ROOM keeps it", 5, x.told(3, COINS));
    }

    private static void stepsWithValue() {
        says("STEPS", "8 VALUE by a (cut; FAILURE 6 DIVISION).");
        int[][] cuts = {{7, 2, 3}, {-7, 2, -3}, {7, -2, -3}, {-7, -2, 3}, {6, 3, 2}, {MIN, -1, MIN}};
        for (int[] c : cuts) {
            runIs(c[0] + " by " + c[1], planned(DIVIDE, c[1], 0), c[0], DONE, c[2]);
        }
        runIs("by 0", planned(DIVIDE, 0, 0, ADD, 1, 0), 9, DIVISION, 9);
        says("STEPS", "9 FAIL with a (20 .. 23).");
        for (int a = 20; a <= 23; a++) {
            SafeDesk x = planned(ADD, 1, 0, FAIL, a, 0, ADD, 1, 0);
            runIs("FAIL", x, 9, -10 - a, 10);
            traceIs("FAIL", x, 111, 109);
        }
        says("STEPS", "10 BACK: the RUN ends, VALUE is a.");
        SafeDesk x = planned(ADD, 1, 0, BACK, -77, 0, ADD, 1, 0);
        runIs("BACK", x, 9, DONE, -77);
        traceIs("BACK", x, 111, 110);
        says("STEPS", "11 ADD a to VALUE.");
        runIs("ADD", planned(ADD, 30, 0, ADD, -2, 0), 9, DONE, 37);
        runIs("an int that runs over", planned(ADD, 1, 0), MAX, DONE, MIN);
    }

    private static void plansWithin() {
        says("STEPS",
            "12 DO PLAN a (0 .. 5): FAILURE 7 if 4 PLANS are at work; else it is done within (BACK ends just that "
            + "one).");
        for (int plan = 1; plan < 6; plan++) {
            SafeDesk x = planned(ADD, 1, 0, DO, plan, 0, ADD, 1, 0);
            plan(x, plan, DIVIDE, 2, 0);
            runIs("PLAN " + plan + " within", x, 9, DONE, 6);
            traceIs("PLAN " + plan + " within", x, 111, 112, 108, 111);
            due("2 at work", 2, x.count(2));
            plan(x, plan, BACK, 50, 0, ADD, 1, 0);
            runIs("BACK of PLAN " + plan, x, 9, DONE, 51);
            plan(x, plan, FAIL, 23, 0);
            runIs("a FAILURE of PLAN " + plan, x, 9, -33, 10);
        }
        SafeDesk x = planned(ADD, 1, 0, DO, 0, 0);
        runIs("a PLAN within itself", x, 0, PLANS, 4);
        due("4 at work", 4, x.count(2));
        due("the DO that failed began, too", 8, x.count(0));
        plan(x, 0, DO, 1, 0, DO, 1, 0);
        plan(x, 1, DO, 2, 0, DO, 2, 0);
        plan(x, 2, DO, 3, 0, DO, 3, 0);
        plan(x, 3, ADD, 1, 0);
        runIs("a PLAN that ended is not at work", x, 0, DONE, 8);
    }

    private static void seeks() {
        says("STEPS",
            "13 SEEK: of the SAFES that ROOMS a and on have now, each is ENTERED and LEFT, up to the first with b "
            + "COINS or more: VALUE is its ROOM; -1 if none is.");
        SafeDesk x = planned(EMPTY, 3, 0, SEEK, 1, 10);
        x.safe(0, SAFE, 50);
        x.safe(2, SAFE, 9);
        x.safe(3, SAFE, 50);
        x.share(3, 7);
        x.safe(4, TIMED, 10);
        x.safe(5, VAULT, 99);
        runIs("SEEK 10", x, 9, DONE, 4);
        traceIs("SEEK 10", x, 106, 113);
        safeIs("in front of a", x, 0, SAFE, 50, 0, 0, 0, 0);
        safeIs("with fewer COINS", x, 2, SAFE, 9, 0, 1, 0, 1);
        safeIs("what ROOM 3 does not have now", x, 7, SAFE, 50, 0, 0, 0, 0);
        safeIs("the first", x, 4, TIMED, 10, 0, 1, 0, 1);
        safeIs("behind the first", x, 5, VAULT, 99, 0, 0, 0, 0);
        plan(x, 0, SEEK, 0, 100);
        runIs("SEEK 100", x, 9, DONE, -1);
        for (int room : new int[] {0, 2, 4, 5, 7}) {
            due("ROOM " + room + " is left", 0, x.told(room, DEEP));
            due("ROOM " + room + " was entered", room == 2 || room == 4 ? 2 : 1, x.told(room, ENTRIES));
        }
    }

    private static void spent() {
        says("FAILURES",
            "FAILURE 40 SPENT, which no TRY holds: a STEP is to begin, and 200 were in this RUN.");
        SafeDesk x = planned(TRY, 0, 11, DO, 1, 0, DO, 2, 0, ADD, 1, 0, ADD, 1, 0, ADD, 1, 0);
        planOf(x, 1, 12, DO, 3);
        planOf(x, 2, 2, DO, 3);
        planOf(x, 3, 12, ADD, 1);
        int begun = 3 + 12 * 13 + 2 * 13 + 3;
        due("STEPS of a RUN that is not SPENT", DONE, x.run(0, 0));
        due("STEPS of a RUN that is not SPENT", begun, x.count(0));
        planOf(x, 4, 200 - begun - 1, ADD, 1);
        plan(x, 2, DO, 3, 0, DO, 3, 0, DO, 4, 0);
        runIs("200", x, 0, DONE, 200 - 18);
        due("200", 200, x.count(0));
        add(x, 4, ADD, 1, 0);
        runIs("a 201st", x, 0, SPENT, 200 - 18);
        due("a 201st", 200, x.count(0));
        runIs("200 of this RUN, not of all", x, 0, SPENT, 200 - 18);
    }

    private static void whatStaysDone() {
        says("FAILURES", "What a FAILURE did before it stays done (ROOMS, COINS, TURNS, ENTRIES, VALUE).");
        SafeDesk x = planned(GET, 5, 0, EMPTY, 0, 0, PUT, 5, 4, ADD, 3, 0, PUT, 5, MAX, ADD, 100, 0);
        x.safe(0, TIMED, 6);
        runIs("SHORT", x, 9, SHORT, 12);
        due("ROOM 0", BAD, x.told(0, KIND));
        safeIs("ROOM 5", x, 5, TIMED, 10, 2, 4, 0, 2);
        SafeDesk held = planned(TRY, 0, 3, GET, 5, 0, PUT, 5, 4, PUT, 5, MAX);
        held.safe(0, TIMED, 6);
        runIs("SHORT, and held", held, 9, DONE, 30);
        safeIs("ROOM 5 behind a FAILURE that was held", held, 5, TIMED, 10, 2, 4, 0, 2);
    }

    private static void answers() {
        says("BAD and FULL",
            "BAD -1: there is no such thing, or a number is not as told; FULL -2: they change nothing.");
        due("BAD", -1, SafeDesk.BAD);
        due("FULL", -2, SafeDesk.FULL);
        SafeDesk x = new SafeDesk();
        planOf(x, 0, 12, ADD, 1);
        x.run(0, 9);
        String before = state(x);
        due("no such PLAN", -1, x.run(6, 1));
        due("no such ROOM", -1, x.share(0, 8));
        due("a number that is not as told", -1, x.step(1, FAIL, 24, 0));
        due("a STEP too many", -2, x.step(0, ADD, 5, 0));
        alike("the desk behind that", before, state(x));
        due("run", DONE, x.run(0, 9));
        due("all STEPS are as they were", 21, x.value());
        says("FAILURES", "A RUN that ends by a FAILURE tells -10 less it.");
        for (int i = 0; i < ENDS.length; i++) {
            SafeDesk y = endings();
            plan(y, 0, ENDS[i][0], ENDS[i][1], ENDS[i][2]);
            due("run that ends by kind " + ENDS[i][0], END_ANSWERS[i], y.run(0, 9));
            due("its FAILURE", END_ANSWERS[i] == DONE ? 0 : -10 - END_ANSWERS[i], y.count(1));
        }
    }

    public static void main(String[] args) {
        oneWithinAnother();
        someAreNotThere();
        whateverEndsAPlan();
        membersEnter();
        rooms();
        safes();
        enteredAndLeft();
        members();
        put();
        worth();
        give();
        plans();
        runs();
        enter();
        tries();
        stepsWithASafe();
        stepsWithRooms();
        stepsWithValue();
        plansWithin();
        seeks();
        spent();
        whatStaysDone();
        answers();
        end();
    }
}

/** The boundary cases of the MEMBERS of SAFES: PUT, WORTH and GIVE, each KIND of them. */
public final class SafeDeskMemberEdges extends DeskChecks {
    /** One step with room 0's safe; room 1 has none. */
    private static SafeDesk oneSafe(int safeKind, int coins, int stepKind, int b) {
        SafeDesk x = planned(stepKind, 0, b);
        x.safe(0, safeKind, coins);
        return x;
    }

    private static void putIs(int kind, int coins, int n, int answer, int... coinsTurnEntriesMost) {
        String what = "PUT " + n + " of kind " + kind + " with " + coins;
        SafeDesk x = oneSafe(kind, coins, PUT, n);
        runIs(what, x, 9, answer, 9);
        int[] want = coinsTurnEntriesMost;
        safeIs(what, x, 0, kind, want[0], want[1], want[2], 0, want[3]);
    }

    private static void putOfASafe() {
        says("MEMBERS",
            "PUT n, of a SAFE: FAILURE 30 SHORT if COINS and n (as longs) are below 0 or above "
            + "1000000; else COINS are n more.");
        putIs(SAFE, 0, 0, DONE, 0, 0, 1, 1);
        putIs(SAFE, 0, -1, SHORT, 0, 0, 1, 1);
        putIs(SAFE, 5, -5, DONE, 0, 0, 1, 1);
        putIs(SAFE, 5, -6, SHORT, 5, 0, 1, 1);
        putIs(SAFE, 0, MOST_COINS, DONE, MOST_COINS, 0, 1, 1);
        putIs(SAFE, 0, MOST_COINS + 1, SHORT, 0, 0, 1, 1);
        putIs(SAFE, MOST_COINS, 0, DONE, MOST_COINS, 0, 1, 1);
        putIs(SAFE, MOST_COINS, 1, SHORT, MOST_COINS, 0, 1, 1);
        putIs(SAFE, MOST_COINS, -MOST_COINS, DONE, 0, 0, 1, 1);
        putIs(SAFE, MOST_COINS, -MOST_COINS - 1, SHORT, MOST_COINS, 0, 1, 1);
        for (int coins : new int[] {0, 1, MOST_COINS}) {
            putIs(SAFE, coins, MAX, SHORT, coins, 0, 1, 1);
            putIs(SAFE, coins, MAX - coins, SHORT, coins, 0, 1, 1);
            putIs(SAFE, coins, MAX - coins + 1, SHORT, coins, 0, 1, 1);
            putIs(SAFE, coins, MIN, SHORT, coins, 0, 1, 1);
        }
    }

    private static void putOfATimed() {
        says("MEMBERS", "Of a TIMED: TURN is 1 more; then what a SAFE's PUT does (that ENTERS it once more).");
        putIs(TIMED, 5, -5, DONE, 0, 1, 2, 2);
        putIs(TIMED, 5, -6, SHORT, 5, 1, 2, 2);
        putIs(TIMED, 0, 0, DONE, 0, 1, 2, 2);
        putIs(TIMED, MOST_COINS - 5, 5, DONE, MOST_COINS, 1, 2, 2);
        putIs(TIMED, MOST_COINS - 5, 6, SHORT, MOST_COINS - 5, 1, 2, 2);
        putIs(TIMED, 3, MAX, SHORT, 3, 1, 2, 2);
        putIs(TIMED, 3, MIN, SHORT, 3, 1, 2, 2);
    }

    private static void putOfAVault() {
        says("MEMBERS", "Of a VAULT: what a TIMED's does, and then that once more.");
        putIs(VAULT, 0, 0, DONE, 0, 2, 5, 3);
        putIs(VAULT, 10, -5, DONE, 0, 2, 5, 3);
        putIs(VAULT, 10, -6, SHORT, 4, 2, 5, 3);
        putIs(VAULT, 10, -10, SHORT, 0, 2, 5, 3);
        putIs(VAULT, 10, -11, SHORT, 10, 1, 3, 3);
        putIs(VAULT, MOST_COINS - 10, 5, DONE, MOST_COINS, 2, 5, 3);
        putIs(VAULT, MOST_COINS - 10, 6, SHORT, MOST_COINS - 4, 2, 5, 3);
        putIs(VAULT, MOST_COINS - 10, 10, SHORT, MOST_COINS, 2, 5, 3);
        putIs(VAULT, MOST_COINS - 10, 11, SHORT, MOST_COINS - 10, 1, 3, 3);
        putIs(VAULT, 0, MOST_COINS / 2, DONE, MOST_COINS, 2, 5, 3);
        putIs(VAULT, 3, MAX, SHORT, 3, 1, 3, 3);
        putIs(VAULT, 3, MIN, SHORT, 3, 1, 3, 3);
    }

    private static void worthOfEachKind() {
        says("MEMBERS",
            "WORTH, of a SAFE: COINS. Of a TIMED: what a SAFE's tells, and TURN. Of a VAULT: what a "
            + "TIMED's tells, twice.");
        for (int coins : new int[] {0, 1, MOST_COINS}) {
            for (int kind = SAFE; kind <= VAULT; kind++) {
                SafeDesk x = oneSafe(kind, coins, WORTH, 0);
                runIs("WORTH of kind " + kind, x, 9, DONE, kind == VAULT ? 2 * coins : coins);
                safeIs("WORTH of kind " + kind, x, 0, kind, coins, 0, kind + 1, 0, kind + 1);
            }
        }
        int[] turns = {0, 3, 5};
        int[] worths = {MOST_COINS, MOST_COINS + 3, 2 * (MOST_COINS + 5)};
        for (int kind = SAFE; kind <= VAULT; kind++) {
            SafeDesk x = planned(PUT, 0, 0, TRY, 30, 1, PUT, 0, -MOST_COINS - 1, PUT, 0, 0, WORTH, 0, 0);
            x.safe(0, kind, MOST_COINS);
            runIs("WORTH of kind " + kind + " with turns", x, 9, DONE, worths[kind]);
            due("TURN of kind " + kind, turns[kind], x.told(0, TURN));
        }
    }

    private static void worthOfManyTurns() {
        says("MEMBERS", "Of a VAULT: what a TIMED's tells, twice. (ints that run over.)");
        SafeDesk x = planned();
        x.safe(0, VAULT, MOST_COINS);
        planOf(x, 0, 12, DO, 1);
        planOf(x, 1, 12, GIVE, 0);
        for (int i = 0; i < 40; i++) {
            due("run " + i, DONE, x.run(0, 0));
        }
        due("TURN: 4 for each GIVE to itself", 40 * 144 * 4, x.told(0, TURN));
        due("COINS", MOST_COINS, x.told(0, COINS));
        plan(x, 0, WORTH, 0, 0, ADD, MAX, 0);
        int worth = 2 * (MOST_COINS + 40 * 144 * 4);
        runIs("WORTH and the greatest int run over", x, 0, DONE, worth + MAX);
    }

    private static void memberOfNone() {
        says("MEMBERS", "(NULL)");
        for (int kind : new int[] {PUT, WORTH, GIVE, DEPTH}) {
            SafeDesk x = planned(kind, 3, 0);
            x.safe(0, SAFE, 8);
            runIs("kind " + kind + " of none", x, 5, NULL, 5);
            traceIs("kind " + kind + " of none", x, 100 + kind);
            safeIs("ROOM b's is not asked", x, 0, SAFE, 8, 0, 0, 0, 0);
        }
        SafeDesk x = planned(GIVE, 3, 4);
        runIs("GIVE of none to none", x, 5, NULL, 5);
        SafeDesk last = planned(GIVE, 7, 7);
        runIs("GIVE of none to that very ROOM", last, 5, NULL, 5);
    }

    private static void giveIs(int coins, int otherCoins, int n, int answer, int... coinsEntriesBoth) {
        SafeDesk x = planned(GIVE, 0, 1);
        x.safe(0, SAFE, coins);
        x.safe(1, SAFE, otherCoins);
        String what = coins + " GIVE " + n + " to " + otherCoins;
        int[] want = coinsEntriesBoth;
        runIs(what, x, n, answer, n);
        safeIs(what + ": giver", x, 0, SAFE, want[0], 0, want[1], 0, 2);
        safeIs(what + ": taker", x, 1, SAFE, want[2], 0, want[3], 0, want[3]);
    }

    private static void giveToAnother() {
        says("MEMBERS", "PUT of it less n (-n as an int), then PUT n of the other one");
        giveIs(5, 0, 0, DONE, 5, 2, 0, 1);
        giveIs(5, 0, 5, DONE, 0, 2, 5, 1);
        giveIs(5, 0, 6, SHORT, 5, 2, 0, 0);
        giveIs(MOST_COINS, 0, MOST_COINS, DONE, 0, 2, MOST_COINS, 1);
        giveIs(MOST_COINS, 0, MOST_COINS + 1, SHORT, MOST_COINS, 2, 0, 0);
        giveIs(0, MOST_COINS, -MOST_COINS, DONE, MOST_COINS, 2, 0, 1);
        giveIs(0, MOST_COINS, -MOST_COINS - 1, SHORT, 0, 2, MOST_COINS, 0);
        giveIs(MOST_COINS, 5, -1, SHORT, MOST_COINS, 2, 5, 0);
        giveIs(5, 5, MAX, SHORT, 5, 2, 5, 0);
        giveIs(5, 5, -MAX, SHORT, 5, 2, 5, 0);
        says("MEMBERS", "-n as an int");
        giveIs(5, 5, MIN, SHORT, 5, 2, 5, 0);
        giveIs(MOST_COINS, MOST_COINS, MIN, SHORT, MOST_COINS, 2, MOST_COINS, 0);
        says("MEMBERS", "FAILURE 30 of the other one: likewise");
        giveIs(5, MOST_COINS - 5, 5, DONE, 0, 2, MOST_COINS, 1);
        giveIs(6, MOST_COINS - 5, 6, SHORT, 6, 3, MOST_COINS - 5, 1);
        giveIs(5, 4, -4, DONE, 9, 2, 0, 1);
        giveIs(5, 4, -5, SHORT, 5, 3, 4, 1);
    }

    private static void giveToTheSame() {
        says("MEMBERS", "GIVE n to another SAFE (or the same, or none)");
        int[] entries = {3, 5, 11};
        int[] mosts = {2, 3, 4};
        for (int kind = SAFE; kind <= VAULT; kind++) {
            int all = kind == VAULT ? 5 : 10;
            SafeDesk x = oneSafe(kind, 10, GIVE, 0);
            runIs("all to itself", x, all, DONE, all);
            safeIs("all to itself", x, 0, kind, 10, 2 * kind, entries[kind], 0, mosts[kind]);
            x.share(0, 4);
            plan(x, 0, GIVE, 0, 4);
            runIs("to itself in another ROOM", x, -1, DONE, -1);
            safeIs("to itself in another ROOM", x, 0, kind, 10, 4 * kind, 2 * entries[kind], 0, mosts[kind]);
            runIs("one too many to itself", x, 11, SHORT, 11);
            due("nothing is gone", 10, x.told(0, COINS));
        }
    }

    private static void giveToNone() {
        says("MEMBERS", "FAILURE 1 NULL if there is none: what went is back then: a PUT of n");
        int[] entries = {3, 5, 11};
        int[] mosts = {2, 3, 4};
        for (int kind = SAFE; kind <= VAULT; kind++) {
            for (int n : new int[] {-5, 0, 5}) {
                SafeDesk x = oneSafe(kind, 10, GIVE, 1);
                runIs(n + " to none", x, n, NULL, n);
                safeIs(n + " to none", x, 0, kind, 10, 2 * kind, entries[kind], 0, mosts[kind]);
            }
            SafeDesk x = oneSafe(kind, 10, GIVE, 1);
            runIs("what it does not have, to none", x, 11, SHORT, 11);
            safeIs("nothing went, nothing is back", x, 0, kind, 10, Math.min(kind, 1), kind + 2, 0, mosts[kind]);
        }
    }

    private static void giveOfAVault() {
        says("MEMBERS, GIVE of a VAULT and to one",
            "Of a VAULT: what a TIMED's does, and then that once more.");
        SafeDesk x = oneSafe(VAULT, 10, GIVE, 1);
        x.safe(1, SAFE, 0);
        runIs("a VAULT gives twice, a SAFE takes once", x, 5, DONE, 5);
        due("the VAULT", 0, x.told(0, COINS));
        due("the SAFE", 5, x.told(1, COINS));
        runIs("a VAULT takes twice", x, -2, DONE, -2);
        due("the VAULT took", 4, x.told(0, COINS));
        due("the SAFE gave once", 3, x.told(1, COINS));
        runIs("SHORT the second time", x, 3, SHORT, 3);
        due("its first PUT stays", 1, x.told(0, COINS));
        due("the SAFE took nothing", 3, x.told(1, COINS));
        SafeDesk y = oneSafe(SAFE, 10, GIVE, 1);
        y.safe(1, VAULT, MOST_COINS - 6);
        runIs("a VAULT takes once, and is SHORT", y, 4, SHORT, 4);
        safeIs("the giver has it back", y, 0, SAFE, 10, 0, 3, 0, 2);
        safeIs("the first PUT stays", y, 1, VAULT, MOST_COINS - 2, 2, 5, 0, 3);
    }

    private static void leftWhicheverWay() {
        says("MEMBERS", "A MEMBER of a SAFE ENTERS it ahead of all and LEAVES it at its end, whichever way");
        for (int kind = SAFE; kind <= VAULT; kind++) {
            SafeDesk x = planned(ENTER, 0, 11, TRY, 30, 1, PUT, 0, -9, TRY, 30, 1, GIVE, 0, 0, ADD, -30, 0,
                TRY, 1, 1, GIVE, 0, 5, PUT, 0, 0, WORTH, 0, 0, DEPTH, 0, 0);
            x.safe(0, kind, 8);
            runIs("DEPTH inside, behind all MEMBERS", x, 9, DONE, 1);
            due("DEPTH outside", 0, x.told(0, DEEP));
            due("MOST: one in GIVE, kind + 1 in PUT, one of ENTER", kind + 3, x.told(0, MOST));
        }
        says("MEMBERS", "DEPTH of ROOM a's SAFE becomes VALUE");
        SafeDesk x = oneSafe(VAULT, 1, DEPTH, 0);
        runIs("DEPTH outside", x, 9, DONE, 0);
        safeIs("DEPTH is asked without entering", x, 0, VAULT, 1, 0, 0, 0, 0);
    }

    public static void main(String[] args) {
        putOfASafe();
        putOfATimed();
        putOfAVault();
        worthOfEachKind();
        worthOfManyTurns();
        memberOfNone();
        giveToAnother();
        giveToTheSame();
        giveToNone();
        giveOfAVault();
        leftWhicheverWay();
        end();
    }
}

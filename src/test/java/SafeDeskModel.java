import java.util.ArrayList;
import java.util.List;

/**
 * Compares long runs of made-up calls with a model that is written another way:
 * its failures are Java exceptions, and its safes are left by finally.
 */
public final class SafeDeskModel {
    private static final int OBJECTS = 16000;
    /** A look at all takes up to 190 calls, and an object promises 512. */
    private static final int CALLS = 512 - 190;

    private static final class Failure extends RuntimeException {
        private static final long serialVersionUID = 1L;
        final int number;

        Failure(int number) {
            super(null, null, false, false);
            this.number = number;
        }
    }

    private static final class Back extends RuntimeException {
        private static final long serialVersionUID = 1L;

        Back() {
            super(null, null, false, false);
        }
    }

    private static final class Box {
        final int kind;
        int coins, turn, entries, depth, most;

        Box(int kind, int coins) {
            this.kind = kind;
            this.coins = coins;
        }

        void enter() {
            entries++;
            if (++depth > most) {
                most = depth;
            }
        }

        void putAs(int as, int n) {
            enter();
            try {
                if (as == 0) {
                    long sum = (long) coins + (long) n;
                    if (sum < 0 || sum > 1000000) {
                        throw new Failure(30);
                    }
                    coins = (int) sum;
                } else if (as == 1) {
                    turn++;
                    putAs(0, n);
                } else {
                    putAs(1, n);
                    putAs(1, n);
                }
            } finally {
                depth--;
            }
        }

        int worthAs(int as) {
            enter();
            try {
                return as == 0 ? coins : as == 1 ? worthAs(0) + turn : 2 * worthAs(1);
            } finally {
                depth--;
            }
        }

        void give(int n, Box other) {
            enter();
            try {
                putAs(kind, -n);
                try {
                    if (other == null) {
                        throw new Failure(1);
                    }
                    other.putAs(other.kind, n);
                } catch (Failure f) {
                    putAs(kind, n);
                    throw f;
                }
            } finally {
                depth--;
            }
        }
    }

    private static final class Model {
        final Box[] rooms = new Box[8];
        final List<List<int[]>> plans = new ArrayList<>();
        List<Integer> trace = new ArrayList<>();
        int value, steps, failure, atWork, mostAtWork;

        Model() {
            for (int i = 0; i < 6; i++) {
                plans.add(new ArrayList<>());
            }
        }

        Box need(int room) {
            if (rooms[room] == null) {
                throw new Failure(1);
            }
            return rooms[room];
        }

        int run(int plan, int start) {
            value = start;
            steps = failure = atWork = mostAtWork = 0;
            trace = new ArrayList<>();
            try {
                doPlan(plan);
                return 1;
            } catch (Failure f) {
                failure = f.number;
                return -10 - failure;
            }
        }

        void doPlan(int plan) {
            if (atWork == 4) {
                throw new Failure(7);
            }
            mostAtWork = Math.max(mostAtWork, ++atWork);
            try {
                doAll(plans.get(plan));
            } catch (Back b) {
                return;
            } finally {
                atWork--;
            }
        }

        void doAll(List<int[]> steps) {
            int at = 0;
            while (at < steps.size()) {
                int[] s = steps.get(at);
                int behind = s[0] > 1 ? at + 1 : Math.min(steps.size(), at + 1 + s[2]);
                doOne(s[0], s[1], s[2], steps.subList(at + 1, behind));
                at = behind;
            }
        }

        void doOne(int kind, int a, int b, List<int[]> block) {
            if (steps == 200) {
                throw new Failure(40);
            }
            steps++;
            trace.add(100 + kind);
            switch (kind) {
                case 0 -> doEnter(need(a), block);
                case 1 -> doTry(a, block);
                case 2 -> need(a).putAs(need(a).kind, b);
                case 3 -> value = need(a).worthAs(need(a).kind);
                case 4 -> need(a).give(value, rooms[b & 7]);
                case 5 -> rooms[a] = rooms[b & 7];
                case 6 -> rooms[a] = null;
                case 7 -> value = need(a).depth;
                case 8 -> {
                    if (a == 0) {
                        throw new Failure(6);
                    }
                    value = (int) ((long) value / a);
                }
                case 9 -> throw new Failure(a);
                case 10 -> {
                    value = a;
                    throw new Back();
                }
                case 11 -> value = (int) ((long) value + a);
                case 12 -> doPlan(a);
                default -> seek(a, b);
            }
        }

        void doEnter(Box box, List<int[]> block) {
            box.enter();
            trace.add(1);
            try {
                doAll(block);
            } finally {
                box.depth--;
                trace.add(2);
            }
        }

        void doTry(int held, List<int[]> block) {
            try {
                doAll(block);
            } catch (Failure f) {
                if (f.number == 40 || held != 0 && held != f.number) {
                    throw f;
                }
                value = f.number;
            }
        }

        void seek(int a, int b) {
            value = -1;
            for (int room = a; room < 8 && value < 0; room++) {
                if (rooms[room] != null) {
                    rooms[room].enter();
                    rooms[room].depth--;
                    value = rooms[room].coins >= b ? room : -1;
                }
            }
        }
    }

    private static long seed = 20261116L;
    private static int wrong = 0;
    private static int calls = 0;

    private static int below(int n) {
        seed = seed * 6364136223846793005L + 1442695040888963407L;
        return (int) ((seed >>> 33) % n);
    }

    private static int oneOf(int... numbers) {
        return numbers[below(numbers.length)];
    }

    private static void due(String what, int want, int got) {
        calls++;
        if (want != got && wrong++ < 20) {
            System.out.println(what + " answered " + got + ", due is " + want);
        }
    }

    private static int someNumber() {
        return oneOf(0, 1, -1, 2, -3, 7, 10, -10, 60, 500000, -500000, 1000000, Integer.MIN_VALUE, Integer.MAX_VALUE);
    }

    /** Calm steps seldom fail, so that runs of them get as far as their 200th step. */
    private static int someKind(boolean calm) {
        return calm ? oneOf(0, 1, 1, 5, 11, 12, 12, 12, 12, 13)
            : oneOf(0, 0, 0, 1, 1, 1, 2, 2, 3, 4, 4, 5, 6, 7, 8, 9, 10, 11, 12, 12, 12, 13);
    }

    private static void addStep(SafeDesk x, Model m, boolean calm) {
        int plan = below(6), kind = someKind(calm);
        int a = below(8), b = someNumber();
        switch (kind) {
            case 0 -> b = 1 + below(11);
            case 1 -> {
                a = calm ? 0 : oneOf(0, 0, 1, 6, 7, 20, 21, 22, 23, 30);
                b = 1 + below(11);
            }
            case 4, 5 -> b = below(40) - 20;
            case 8, 10, 11 -> a = someNumber();
            case 9 -> a = 20 + below(4);
            case 12 -> a = below(6);
            default -> { }
        }
        List<int[]> steps = m.plans.get(plan);
        boolean full = steps.size() == 12;
        if (!full) {
            steps.add(new int[] {kind, a, b});
        }
        due("step", full ? -2 : steps.size(), x.step(plan, kind, a, b));
    }

    private static void compare(SafeDesk x, Model m) {
        due("value", m.value, x.value());
        due("count(0)", m.steps, x.count(0));
        due("count(1)", m.failure, x.count(1));
        due("count(2)", m.mostAtWork, x.count(2));
        int traced = Math.min(120, m.trace.size());
        due("trace(-1)", traced, x.trace(-1));
        for (int k = 0; k < traced; k++) {
            due("trace(" + k + ")", m.trace.get(k), x.trace(k));
        }
        int filled = 0;
        for (int room = 0; room < 8; room++) {
            Box box = m.rooms[room];
            int[] want = box == null ? new int[] {-1, -1, -1, -1, -1, -1}
                : new int[] {box.kind, box.coins, box.turn, box.entries, box.depth, box.most};
            filled += box == null ? 0 : 1;
            for (int what = 0; what < 6; what++) {
                due("told(" + room + ", " + what + ")", want[what], x.told(room, what));
            }
            due("same", m.rooms[0] == box ? 1 : 0, x.same(0, room));
        }
        due("count(3)", filled, x.count(3));
    }

    private static void doCall(SafeDesk x, Model m, boolean calm) {
        int choice = below(100);
        int room = below(8), other = below(8), plan = below(6);
        if (choice < 12) {
            int kind = below(3), coins = oneOf(0, 5, 100, 500000, 999990, 1000000);
            m.rooms[room] = new Box(kind, coins);
            due("safe", 1, x.safe(room, kind, coins));
        } else if (choice < 16) {
            m.rooms[other] = m.rooms[room];
            due("share", m.rooms[room] == null ? 0 : 1, x.share(room, other));
        } else if (choice < 18) {
            due("clear", m.plans.get(plan).size(), x.clear(plan));
            m.plans.get(plan).clear();
        } else if (choice < 75) {
            addStep(x, m, calm);
        } else {
            int start = someNumber();
            due("run", m.run(plan, start), x.run(plan, start));
            due("value", m.value, x.value());
        }
    }

    public static void main(String[] args) {
        int[] failures = new int[41];
        for (int i = 0; i < OBJECTS; i++) {
            SafeDesk x = new SafeDesk();
            Model m = new Model();
            int last = 30 + below(CALLS - 30);
            calls = 0;
            while (calls < last) {
                doCall(x, m, i % 2 == 0);
                failures[m.failure]++;
            }
            compare(x, m);
        }
        for (int number : new int[] {0, 1, 6, 7, 20, 21, 22, 23, 30, 40}) {
            if (failures[number] == 0) {
                wrong++;
                System.out.println("no run ended by " + number + ": the calls don't reach far enough");
            }
        }
        System.out.println(wrong == 0 ? "all answers are as due" : wrong + " answers are not as due");
        if (wrong != 0) {
            System.exit(1);
        }
    }
}

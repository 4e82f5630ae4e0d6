import java.util.Random;
import java.util.TreeMap;

/** Runs of calls, made with a fixed seed, on LazyMachine and on the plain model: every answer is the same. */
public final class ModelTest {
    private static final int RUNS = 6000;
    // What an object answers to later calls is free.
    private static final int CALLS = 512;

    private final Random random;
    private final LazyMachine machine = new LazyMachine();
    private final PlainModel model = new PlainModel();
    private final StringBuilder calls = new StringBuilder();
    private boolean same = true;
    private int made;

    private ModelTest(int seed) {
        random = new Random(seed);
    }

    public static void main(String[] args) {
        TreeMap<Integer, Integer> statuses = new TreeMap<>();
        for (int seed = 0; seed < RUNS; seed++) {
            ModelTest test = new ModelTest(seed);
            while (test.made < CALLS && test.same) {
                test.call();
                statuses.merge(test.model.count(2), 1, Integer::sum);
            }
        }
        System.out.println("statuses seen: " + statuses);
        for (int status = 0; status <= 6; status++) {
            Check.due("status " + status + " was seen", 1, statuses.getOrDefault(status, 0) > 20 ? 1 : 0);
        }
        Check.end();
    }

    private void both(String call, Check.Call one, Check.Call other) {
        if (made == CALLS) {
            return;
        }
        made++;
        calls.append(call).append("; ");
        int want = Check.outcome(other);
        int got = Check.outcome(one);
        if (same && want != got) {
            same = false;
            System.out.println(calls);
        }
        Check.due(call, want, got);
    }

    private void put(int sort, int x) {
        both("put(" + sort + ", " + x + ")", () -> machine.put(sort, x), () -> model.put(sort, x));
    }

    private void call() {
        int kind = random.nextInt(12);
        if (model.count(2) == 0 || kind == 0) {
            newTerm();
        } else if (kind == 1) {
            both("restart()", () -> {
                machine.restart();
                return 0;
            }, model::restart);
        } else if (kind <= 4) {
            int k = random.nextInt(12) == 0 ? random.nextInt(4) - 1 : random.nextInt(2);
            both("into(" + k + ")", () -> machine.into(k), () -> model.into(k));
        } else if (kind <= 6) {
            int v = random.nextInt(12) == 0 ? random.nextInt() : random.nextInt(300);
            both("apply(" + v + ")", () -> machine.apply(v), () -> model.apply(v));
        } else {
            int n = runLength();
            both("run(" + n + ")", () -> machine.run(n), () -> model.run(n));
        }
        for (int what = -1; what <= 9; what++) {
            int it = what;
            both("count(" + what + ")", () -> machine.count(it), () -> model.count(it));
        }
        for (int what = -1; what <= 3; what++) {
            int it = what;
            both("result(" + what + ")", () -> machine.result(it), () -> model.result(it));
        }
    }

    private int runLength() {
        switch (random.nextInt(8)) {
            case 0:
                return random.nextInt(3) * 5001 - random.nextInt(2);
            case 1:
                return random.nextInt(5001);
            case 2:
                return 5000;
            default:
                return random.nextInt(60);
        }
    }

    private void newTerm() {
        int kind = random.nextInt(10);
        if (kind == 0) {
            // Mostly no term at all.
            for (int i = random.nextInt(12); i > 0; i--) {
                put(random.nextInt(16) - 1, random.nextInt(3) == 0 ? random.nextInt(45) - 2 : 0);
            }
        } else {
            left = kind < 4 ? 200 : 10 + random.nextInt(60);
            term(0, kind < 7 ? 0 : random.nextInt(4), 0);
        }
        both("load()", machine::load, model::load);
    }

    private int left;

    /** A term that is likely to be of the sort: 0 a number, 1 a function of a number, 2 a pair, 3 a list. */
    private void term(int binders, int sort, int depth) {
        left--;
        if (random.nextInt(150) == 0) {
            term(binders, random.nextInt(4), depth);
            return;
        }
        if (binders > 0 && random.nextInt(depth > 8 || left < 20 ? 2 : 5) == 0) {
            put(0, random.nextInt(Math.min(binders, random.nextInt(8) == 0 ? 41 : 3)));
            return;
        }
        if (depth > 12 || left < 10) {
            leaf(sort);
            return;
        }
        switch (random.nextInt(8)) {
            case 0 -> {
                put(10, 0);
                term(binders, random.nextInt(4), depth + 1);
                term(binders + 1, sort, depth + 1);
            }
            case 1 -> {
                put(2, 0);
                put(1, 0);
                term(binders + 1, sort, depth + 1);
                term(binders, random.nextInt(4), depth + 1);
            }
            case 2 -> {
                put(12 + random.nextInt(2), 0);
                put(11, 0);
                term(binders, sort, depth + 1);
                term(binders, sort, depth + 1);
            }
            case 3 -> {
                put(8, 0);
                term(binders, 0, depth + 1);
                term(binders, sort, depth + 1);
                term(binders, sort, depth + 1);
            }
            case 4 -> loop(binders, sort, depth);
            case 5 -> {
                put(9, 0);
                term(binders + 1, sort, depth + 1);
            }
            default -> own(binders, sort, depth);
        }
    }

    private void leaf(int sort) {
        switch (sort) {
            case 1 -> {
                put(1, 0);
                put(0, 0);
            }
            case 2, 3 -> {
                put(11, 0);
                put(3, random.nextInt(5));
                put(3, random.nextInt(5));
            }
            default -> put(3, random.nextInt(6) == 0 ? random.nextInt() : random.nextInt(4));
        }
    }

    private void own(int binders, int sort, int depth) {
        switch (sort) {
            case 0 -> {
                put(4 + random.nextInt(4), 0);
                term(binders, 0, depth + 1);
                term(binders, 0, depth + 1);
            }
            case 1 -> {
                put(1, 0);
                term(binders + 1, random.nextInt(4), depth + 1);
            }
            case 2 -> {
                put(11, 0);
                term(binders, random.nextInt(4), depth + 1);
                term(binders, random.nextInt(4), depth + 1);
            }
            default -> {
                put(9, 0);
                put(11, 0);
                term(binders + 1, 0, depth + 1);
                term(binders + 1, 3, depth + 1);
            }
        }
    }

    /** Down from a number, or on and on: the frames and cells that it leaves are the rounds' own. */
    private void loop(int binders, int sort, int depth) {
        put(2, 0);
        put(9, 0);
        put(1, 0);
        int inside = binders + 2;
        if (random.nextInt(3) > 0) {
            put(8, 0);
            put(0, 0);
            term(inside, sort, depth + 4);
        }
        switch (random.nextInt(5)) {
            case 0 -> {
                put(4 + random.nextInt(3), 0);
                again();
                put(0, 0);
            }
            case 1 -> {
                put(4 + random.nextInt(3), 0);
                put(0, 0);
                again();
            }
            case 2 -> {
                put(11, 0);
                term(inside, 0, depth + 4);
                again();
            }
            case 3 -> {
                put(12, 0);
                put(11, 0);
                again();
                term(inside, sort, depth + 4);
            }
            default -> again();
        }
        put(3, random.nextInt(200));
    }

    private void again() {
        put(2, 0);
        put(0, 1);
        put(5, 0);
        put(0, 0);
        put(3, random.nextInt(10) == 0 ? 0 : 1);
    }
}

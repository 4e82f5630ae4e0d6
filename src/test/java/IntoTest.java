/** Promise 7: into. */
public final class IntoTest {
    public static void main(String[] args) {
        waits();
        done();
        endless();
        refused();
        stopsLater();
        Check.end();
    }

    private static void waits() {
        LazyMachine machine = Check.ran("pair plus 1 2 lam v0", 2);
        Check.counts("a pair", machine, 0, 6, 2, 2, 0, 0, 2, -1, 0);
        Check.due("into(0)", 1, () -> machine.into(0));
        // The pair is gone, and with it the second thunk; the first is busy under its frame.
        Check.counts("asked", machine, 0, 6, 1, 2, 1, 1, 1, 1, 1);
        Check.due("run(6)", 1, machine.run(6));
        Check.due("run(1)", 2, machine.run(1));
        Check.due("result(1)", 3, machine.result(1));
        Check.counts("over", machine, 0, 6, 2, 9, 1, 0, 0, -1, 2);

        LazyMachine second = Check.ran("pair plus 1 2 lam v0", 2);
        Check.due("into(1)", 1, () -> second.into(1));
        Check.due("count(7)", 4, second.count(7));
        Check.due("run(9)", 2, second.run(9));
        Check.due("result(2)", 4, second.result(2));
    }

    private static void done() {
        LazyMachine machine = Check.ran("let plus 1 2 zero v0 1 pair v0 v0", 2);
        int steps = machine.count(3);
        Check.due("count(4)", 1, machine.count(4));
        Check.due("into(1)", 1, () -> machine.into(1));
        Check.counts("asked", machine, 0, 10, 1, steps, 1, 0, 0, -1, 3);
        Check.due("run(0)", 1, machine.run(0));
        Check.due("result(0)", Check.STATE, () -> machine.result(0));
        Check.due("run(1)", 2, machine.run(1));
        Check.due("result(1)", 3, machine.result(1));
        Check.due("count(3)", steps + 1, machine.count(3));
    }

    private static void endless() {
        LazyMachine machine = Check.ran("app fix lam pair v0 app v1 plus v0 1 1", 2);
        for (int i = 1; i <= 40; i++) {
            Check.due("into(1)", 1, machine.into(1));
            Check.due("run(99)", 2, machine.run(99));
            Check.due("result(0)", 2, machine.result(0));
        }
        Check.due("into(0)", 1, machine.into(0));
        Check.due("run(5000)", 2, machine.run(5000));
        Check.due("result(1)", 41, machine.result(1));

        LazyMachine round = Check.ran("fix pair 1 v0", 2);
        for (int i = 1; i <= 9; i++) {
            Check.due("into(1)", 1, round.into(1));
            Check.due("run(1)", 2, round.run(1));
            Check.due("result(0)", 2, round.result(0));
            Check.due("count(4)", 1, round.count(4));
        }
    }

    private static void refused() {
        LazyMachine machine = new LazyMachine();
        Check.due("without a term", Check.STATE, () -> machine.into(0));
        Check.due("without a term, and wrong", Check.STATE, () -> machine.into(2));
        LazyMachine begun = Check.loaded("pair 1 2");
        Check.due("at the beginning", Check.STATE, () -> begun.into(0));
        begun.run(1);
        Check.due("back with a pair", Check.STATE, () -> begun.into(0));
        begun.run(1);
        int[] wrong = {-1, 2, Integer.MAX_VALUE, Integer.MIN_VALUE};
        for (int k : wrong) {
            Check.due("into(" + k + ")", Check.ARGUMENT, () -> begun.into(k));
        }
        Check.due("it is over still", 2, begun.count(2));
        Check.due("into(0)", 1, () -> begun.into(0));
        Check.due("into(0) again", Check.STATE, () -> begun.into(0));
        LazyMachine number = Check.ran("1", 2);
        Check.due("of a number", Check.STATE, () -> number.into(0));
        Check.due("of a number, and wrong", Check.STATE, () -> number.into(2));
        LazyMachine function = Check.ran("lam v0", 2);
        Check.due("of a function", Check.STATE, () -> function.into(1));
        LazyMachine stopped = Check.ran("app pair 1 2 3", 3);
        Check.due("of a stopped machine", Check.STATE, () -> stopped.into(0));
    }

    private static void stopsLater() {
        LazyMachine machine = Check.ran("pair first 1 fix v0", 2);
        Check.due("into(0)", 1, machine.into(0));
        Check.due("run(9)", 3, machine.run(9));
        Check.due("restart()", 0, Check.restart(machine));
        Check.due("run(9)", 2, machine.run(9));
        Check.due("into(1)", 1, machine.into(1));
        Check.due("run(9)", 4, machine.run(9));
    }
}

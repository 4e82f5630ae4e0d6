/** Promise 8: apply. */
public final class ApplyTest {
    public static void main(String[] args) {
        gets();
        again();
        refused();
        room();
        Check.end();
    }

    private static void gets() {
        LazyMachine machine = Check.ran("let 100 lam plus v0 v1", 2);
        Check.counts("a function", machine, 0, 6, 2, 3, 0, 0, 2, -1, 0);
        Check.due("apply(-3)", 1, () -> machine.apply(-3));
        // No step, nothing forced: the thunk is done from the beginning.
        Check.counts("applied", machine, 0, 6, 1, 3, 0, 0, 4, 3, 0);
        Check.due("run(99)", 2, machine.run(99));
        Check.due("result(1)", 97, machine.result(1));
        Check.due("count(4)", 1, machine.count(4));

        int[] numbers = {0, 1, -1, Integer.MAX_VALUE, Integer.MIN_VALUE};
        for (int v : numbers) {
            LazyMachine same = Check.ran("lam v0", 2);
            Check.due("apply(" + v + ")", 1, () -> same.apply(v));
            Check.due("run(2)", 2, same.run(2));
            Check.due("result(1)", v, same.result(1));
            Check.due("count(4)", 0, same.count(4));
            Check.due("count(3)", 4, same.count(3));
        }
    }

    private static void again() {
        LazyMachine machine = Check.ran("lam lam lam minus v2 times v1 v0", 2);
        int[] numbers = {100, 6, 7};
        for (int v : numbers) {
            Check.due("apply(" + v + ")", 1, machine.apply(v));
            Check.due("run(99)", 2, machine.run(99));
        }
        Check.due("result(1)", 58, machine.result(1));
        LazyMachine pair = Check.ran("lam pair v0 plus v0 1", 2);
        Check.due("apply(5)", 1, pair.apply(5));
        Check.due("run(2)", 2, pair.run(2));
        Check.due("into(1)", 1, pair.into(1));
        Check.due("run(9)", 2, pair.run(9));
        Check.due("result(1)", 6, pair.result(1));
    }

    private static void refused() {
        LazyMachine machine = new LazyMachine();
        Check.due("without a term", Check.STATE, () -> machine.apply(1));
        LazyMachine begun = Check.loaded("lam v0");
        Check.due("at the beginning", Check.STATE, () -> begun.apply(1));
        begun.run(1);
        Check.due("back with a function", Check.STATE, () -> begun.apply(1));
        begun.run(1);
        Check.due("apply(1)", 1, () -> begun.apply(1));
        Check.due("apply(1) again", Check.STATE, () -> begun.apply(1));
        LazyMachine number = Check.ran("1", 2);
        Check.due("of a number", Check.STATE, () -> number.apply(1));
        LazyMachine pair = Check.ran("pair lam v0 lam v0", 2);
        Check.due("of a pair", Check.STATE, () -> pair.apply(1));
        LazyMachine stopped = Check.ran("plus lam v0 1", 3);
        Check.due("of a stopped machine", Check.STATE, () -> stopped.apply(1));
    }

    /** A function that keeps 6 + 4 * levels + lets cells. */
    private static LazyMachine keeping(int levels, int lets, int status) {
        return Check.ran("app app fix lam lam zero v1 " + Check.repeated("let v0", lets)
            + "lam v0 app app v2 minus v1 1 pair v0 0 " + levels + " 0", status);
    }

    private static void room() {
        LazyMachine both = keeping(62, 0, 2);
        Check.due("cells", 254, both.count(6));
        Check.due("apply(1), with room for both", 1, both.apply(1));
        Check.due("cells", 256, both.count(6));
        Check.due("run(2)", 2, both.run(2));

        for (int lets = 1; lets <= 2; lets++) {
            LazyMachine full = keeping(62, lets, 2);
            int steps = full.count(3);
            int forced = full.count(4);
            int most = full.count(8);
            Check.due("cells", 254 + lets, full.count(6));
            Check.due("apply(1), without room for both", 6, full.apply(1));
            int nodes = full.count(1);
            Check.counts("stopped", full, 0, nodes, 6, steps, forced, 0, 254 + lets, -1, most);
            Check.due("run(1)", 6, full.run(1));
            Check.due("apply(1) when it is stopped", Check.STATE, () -> full.apply(1));
            Check.due("result(0)", Check.STATE, () -> full.result(0));
            Check.due("restart()", 0, Check.restart(full));
            Check.due("run(5000)", 2, full.run(5000));
        }
        keeping(62, 3, 6);
    }
}

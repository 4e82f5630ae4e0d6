/** Promise 5: run, and the steps that the document tells. */
public final class RunTest {
    public static void main(String[] args) {
        arguments();
        numbers();
        laziness();
        functions();
        steps();
        Check.end();
    }

    private static void arguments() {
        LazyMachine machine = new LazyMachine();
        Check.due("run(5001) without a term", Check.STATE, () -> machine.run(5001));
        Check.put(machine, "app fix lam app v1 v0 1");
        machine.load();
        int[] wrong = {-1, 5001, Integer.MIN_VALUE, Integer.MAX_VALUE};
        for (int n : wrong) {
            Check.due("run(" + n + ")", Check.ARGUMENT, () -> machine.run(n));
        }
        Check.due("run(0)", 1, () -> machine.run(0));
        Check.due("count(3)", 0, machine.count(3));
        Check.due("run(5000)", 1, () -> machine.run(5000));
        Check.due("count(3)", 5000, machine.count(3));
        Check.due("run(1)", 1, () -> machine.run(1));
        Check.due("count(3)", 5001, machine.count(3));

        LazyMachine over = Check.ran("1", 2);
        Check.due("run(7) when it is over", 2, over.run(7));
        Check.due("run(0) when it is over", 2, over.run(0));
        Check.due("run(5001) when it is over", Check.ARGUMENT, () -> over.run(5001));
        Check.due("steps stay", 2, over.count(3));

        LazyMachine stopped = Check.ran("first 1", 3);
        Check.due("run(7) when it is stopped", 3, stopped.run(7));
        Check.due("run(-1) when it is stopped", Check.ARGUMENT, () -> stopped.run(-1));
        Check.due("steps stay", 2, stopped.count(3));
    }

    private static void numbers() {
        Check.number("-5", -5);
        Check.number("plus 2 3", 5);
        Check.number("minus 2 3", -1);
        Check.number("times -4 3", -12);
        Check.number("less 2 3", 1);
        Check.number("less 3 3", 0);
        Check.number("less 4 3", 0);
        Check.number("less -2147483648 2147483647", 1);
        Check.number("less 2147483647 -2147483648", 0);
        Check.number("plus 2147483647 1", Integer.MIN_VALUE);
        Check.number("minus -2147483648 1", Integer.MAX_VALUE);
        Check.number("times 65536 65536", 0);
        Check.number("times 2147483647 2147483647", 1);
        Check.number("zero 0 7 8", 7);
        Check.number("zero 1 7 8", 8);
        Check.number("zero -1 7 8", 8);
        Check.number("minus minus 10 3 minus 2 1", 6);
    }

    private static void laziness() {
        Check.number("first pair 1 fix v0", 1);
        Check.number("second pair fix v0 2", 2);
        Check.number("app lam 3 fix v0", 3);
        Check.number("let app 1 1 4", 4);
        Check.number("zero 0 5 first 1", 5);
        Check.number("zero 9 first 1 6", 6);
        // Worked out once: three uses, one thunk forced.
        LazyMachine once = Check.ran("let plus 1 2 plus v0 plus v0 v0", 2);
        Check.due("result(1)", 9, once.result(1));
        Check.due("count(4)", 1, once.count(4));
    }

    private static void functions() {
        Check.number("app app lam lam minus v1 v0 10 3", 7);
        Check.number("app lam app v0 5 lam times v0 v0", 25);
        Check.number("let 1 let 2 let 3 plus times v2 100 plus times v1 10 v0", 123);
        Check.number("app fix lam zero v0 1 times v0 app v1 minus v0 1 10", 3628800);
        Check.number("let fix pair 1 v0 first second second second v0", 1);
        // A function keeps the environment where it was made.
        Check.number("let 1 let lam plus v0 v1 let 100 app v1 v0", 101);
        // A long way with few cells: the heap's cells are used again.
        Check.number("app app fix lam lam zero v1 v0 app app v2 minus v1 1 v0 250 3", 3);
    }

    /** Behind each step: node, frames, cells, forced. */
    private static void trace(String term, int[][] wants) {
        LazyMachine machine = Check.loaded(term);
        for (int i = 0; i < wants.length; i++) {
            String where = term + " behind step " + (i + 1);
            Check.due(where, i == wants.length - 1 ? 2 : 1, machine.run(1));
            Check.due(where + ": steps", i + 1, machine.count(3));
            Check.due(where + ": node", wants[i][0], machine.count(7));
            Check.due(where + ": frames", wants[i][1], machine.count(5));
            Check.due(where + ": cells", wants[i][2], machine.count(6));
            Check.due(where + ": forced", wants[i][3], machine.count(4));
        }
    }

    private static void steps() {
        trace("7", new int[][] {{-1, 0, 0, 0}, {-1, 0, 0, 0}});
        trace("lam v0", new int[][] {{-1, 0, 0, 0}, {-1, 0, 0, 0}});
        trace("plus 1 2", new int[][] {
            {1, 1, 0, 0}, {-1, 1, 0, 0}, {2, 1, 0, 0}, {-1, 1, 0, 0}, {-1, 0, 0, 0}, {-1, 0, 0, 0}});
        trace("zero 0 5 6", new int[][] {
            {1, 1, 0, 0}, {-1, 1, 0, 0}, {2, 0, 0, 0}, {-1, 0, 0, 0}, {-1, 0, 0, 0}});
        trace("app lam v0 4", new int[][] {
            {1, 1, 1, 0}, {-1, 1, 1, 0}, {2, 0, 2, 0}, {3, 1, 1, 1}, {-1, 1, 1, 1}, {-1, 0, 0, 1}, {-1, 0, 0, 1}});
        trace("let 4 v0", new int[][] {
            {2, 0, 2, 0}, {1, 1, 1, 1}, {-1, 1, 1, 1}, {-1, 0, 0, 1}, {-1, 0, 0, 1}});
        trace("fix lam v1", new int[][] {
            {1, 1, 2, 1}, {-1, 1, 2, 1}, {-1, 0, 2, 1}, {-1, 0, 2, 1}});
        trace("pair 1 2", new int[][] {{-1, 0, 2, 0}, {-1, 0, 2, 0}});
        trace("first pair 1 2", new int[][] {
            {1, 1, 0, 0}, {-1, 1, 2, 0}, {2, 1, 1, 1}, {-1, 1, 1, 1}, {-1, 0, 0, 1}, {-1, 0, 0, 1}});
        trace("second pair 1 2", new int[][] {
            {1, 1, 0, 0}, {-1, 1, 2, 0}, {3, 1, 1, 1}, {-1, 1, 1, 1}, {-1, 0, 0, 1}, {-1, 0, 0, 1}});
        // Thunks for variables are those that they are bound to: no cells but the links.
        trace("let 4 pair v0 v0", new int[][] {{2, 0, 2, 0}, {-1, 0, 1, 0}, {-1, 0, 1, 0}});
        trace("let 4 let v0 lam v0", new int[][] {
            {2, 0, 2, 0}, {4, 0, 3, 0}, {-1, 0, 3, 0}, {-1, 0, 3, 0}});
    }
}

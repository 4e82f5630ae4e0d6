/** Promise 9: count. */
public final class CountTest {
    public static void main(String[] args) {
        others();
        throughARun();
        mostFrames();
        reachedCells();
        Check.end();
    }

    private static void others() {
        int[] whats = {-1, 9, 10, Integer.MAX_VALUE, Integer.MIN_VALUE};
        LazyMachine[] machines = {new LazyMachine(), Check.loaded("1"), Check.ran("pair 1 2", 2), Check.ran("app 1 2", 3)};
        for (LazyMachine machine : machines) {
            for (int what : whats) {
                Check.due("count(" + what + ")", -1, machine.count(what));
            }
        }
    }

    private static void throughARun() {
        LazyMachine machine = Check.loaded("let plus 1 2 times v0 v0");
        Check.put(machine, "1 2");
        int[][] wants = {
            {2, 7, 1, 0, 0, 0, 0, 0, 0},
            {2, 7, 1, 1, 0, 0, 2, 4, 0},
            {2, 7, 1, 2, 0, 1, 2, 5, 1},
            {2, 7, 1, 3, 1, 2, 2, 1, 2},
            {2, 7, 1, 4, 1, 3, 2, 2, 3},
            {2, 7, 1, 5, 1, 3, 2, -1, 3},
            {2, 7, 1, 6, 1, 3, 2, 3, 3},
            {2, 7, 1, 7, 1, 3, 2, -1, 3},
            {2, 7, 1, 8, 1, 2, 2, -1, 3},
            {2, 7, 1, 9, 1, 1, 2, -1, 3},
            {2, 7, 1, 10, 1, 1, 2, 6, 3},
            {2, 7, 1, 11, 1, 1, 0, -1, 3},
            {2, 7, 1, 12, 1, 0, 0, -1, 3},
            {2, 7, 2, 13, 1, 0, 0, -1, 3},
            {2, 7, 2, 13, 1, 0, 0, -1, 3}
        };
        for (int[] want : wants) {
            Check.counts("let plus 1 2 times v0 v0", machine, want);
            machine.run(1);
        }
        Check.due("result(1)", 9, machine.result(1));
    }

    private static void mostFrames() {
        LazyMachine machine = Check.ran("pair plus 1 plus 2 plus 3 4 5", 2);
        Check.due("count(8)", 0, machine.count(8));
        machine.into(0);
        Check.due("count(8) behind into", 1, machine.count(8));
        machine.run(99);
        Check.due("count(8)", 4, machine.count(8));
        Check.due("count(5)", 0, machine.count(5));
        machine.restart();
        Check.due("count(8) at the beginning again", 0, machine.count(8));
    }

    private static void reachedCells() {
        // Rings of cells that nothing leads to are not reached.
        LazyMachine ring = Check.ran("let fix pair 1 v0 zero first v0 2 3", 2);
        Check.due("count(6)", 0, ring.count(6));
        LazyMachine kept = Check.ran("fix pair 1 v0", 2);
        Check.due("count(6) of a pair around itself", 3, kept.count(6));
        Check.due("count(6) is no change", 3, kept.count(6));
        // A busy thunk leads to nothing: its environment is kept only by those who need it.
        LazyMachine busy = Check.loaded("let 1 let 7 v0");
        busy.run(3);
        Check.due("count(6), at the number in its environment", 3, busy.count(6));
        busy.run(1);
        Check.due("count(6), back with the number", 1, busy.count(6));
        // LEFT and TEST keep the environment for what is still to come.
        LazyMachine left = Check.loaded("let 1 plus 2 v0");
        left.run(3);
        Check.due("count(6) under LEFT", 2, left.count(6));
        LazyMachine test = Check.loaded("let 1 zero 2 v0 v0");
        test.run(3);
        Check.due("count(6) under TEST", 2, test.count(6));
        // The right number keeps no environment.
        LazyMachine right = Check.loaded("let 1 plus 2 v0");
        right.run(5);
        Check.due("count(7)", 1, right.count(7));
        Check.due("count(5)", 2, right.count(5));
        Check.due("count(6)", 1, right.count(6));
        // What a result keeps: a function its whole environment.
        Check.due("count(6) of a function", 6, Check.ran("let 1 let 2 let 3 lam 0", 2).count(6));
        Check.due("count(6) of a number", 0, Check.ran("let 1 let 2 let 3 7", 2).count(6));
        // Of a stopped machine.
        Check.due("count(6) of a stopped one", 5, Check.ran("let 1 let 2 app 3 4", 3).count(6));
    }
}

/** Promise 4: restart. */
public final class RestartTest {
    private static final String FACTORIAL = "app fix lam zero v0 1 times v0 app v1 minus v0 1 10";
    private static final String FULL = "app fix lam plus 1 app v1 plus v0 1 3";

    public static void main(String[] args) {
        behind(FACTORIAL, 0, 1);
        behind(FACTORIAL, 7, 1);
        behind(FACTORIAL, 5000, 2);
        behind("app 1 2", 5000, 3);
        behind("fix plus v0 1", 5000, 4);
        behind("app fix lam first app v1 v0 1", 5000, 5);
        behind(FULL, 5000, 6);
        withoutTerm();
        nodesThatWait();
        // What was worked out before counts for nothing: thunks are forced again.
        LazyMachine machine = Check.ran("let plus 1 2 pair v0 v0", 2);
        Check.due("into(0)", 1, machine.into(0));
        Check.due("run(9)", 2, machine.run(9));
        Check.due("restart()", 0, Check.restart(machine));
        Check.due("result(0)", Check.STATE, () -> machine.result(0));
        Check.due("run(9)", 2, machine.run(9));
        Check.due("count(4)", 0, machine.count(4));
        Check.end();
    }

    private static void behind(String term, int steps, int status) {
        LazyMachine machine = Check.loaded(term);
        LazyMachine fresh = Check.loaded(term);
        Check.due("run(" + steps + ") of " + term, status, machine.run(steps));
        Check.due("restart()", 0, Check.restart(machine));
        Check.counts("restarted: " + term, machine, 0, fresh.count(1), 1, 0, 0, 0, 0, 0, 0);
        for (int i = 0; i < 40; i++) {
            Check.due("run(1)", fresh.run(1), machine.run(1));
            for (int what = 0; what <= 8; what++) {
                Check.due(term + ": count(" + what + ") behind step " + i, fresh.count(what), machine.count(what));
            }
        }
    }

    private static void withoutTerm() {
        LazyMachine machine = new LazyMachine();
        machine.put(3, 1);
        Check.due("restart() of nodes that wait", Check.STATE, Check.restart(machine));
        machine.load();
        machine.load();
        Check.due("restart() behind a bad load", Check.STATE, Check.restart(machine));
    }

    private static void nodesThatWait() {
        LazyMachine machine = Check.ran("plus 1 2", 2);
        Check.put(machine, "lam v0");
        Check.due("restart()", 0, Check.restart(machine));
        Check.counts("nodes wait on", machine, 2, 3, 1);
        Check.due("run(9)", 2, machine.run(9));
        Check.due("result(1)", 3, machine.result(1));
        Check.due("load()", 0, machine.load());
        Check.due("count(1)", 2, machine.count(1));
    }
}

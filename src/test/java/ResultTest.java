/** Promise 6: result. */
public final class ResultTest {
    public static void main(String[] args) {
        of("7", 0, 7, -1);
        of("0", 0, 0, -1);
        of("-1", 0, -1, -1);
        of("2147483647", 0, 2147483647, -1);
        of("lam v0", 1, -1, 0);
        of("let 5 lam v1", 1, -1, 2);
        of("app lam lam v1 3", 1, -1, 2);
        of("fix lam lam v0", 1, -1, 1);
        of("pair 8 9", 2, -1, -1);
        of("let pair 8 9 v0", 2, -1, -1);
        notOver();
        Check.end();
    }

    private static void of(String term, int sort, int number, int lambda) {
        LazyMachine machine = Check.ran(term, 2);
        int[] wants = {sort, number, lambda, -1, -1};
        for (int what = 0; what < wants.length; what++) {
            int it = what;
            Check.due(term + ": result(" + what + ")", wants[what], () -> machine.result(it));
        }
        Check.due(term + ": result(-1)", -1, () -> machine.result(-1));
        Check.due(term + ": result(most)", -1, () -> machine.result(Integer.MAX_VALUE));
        Check.due(term + ": result(least)", -1, () -> machine.result(Integer.MIN_VALUE));
        Check.due(term + ": count(2)", 2, machine.count(2));
    }

    private static void notOver() {
        LazyMachine machine = Check.loaded("7");
        for (int steps = 0; steps < 2; steps++) {
            for (int what = -1; what <= 3; what++) {
                int it = what;
                Check.due("result(" + what + ") behind " + steps, Check.STATE, () -> machine.result(it));
            }
            machine.run(1);
        }
        Check.due("result(1)", 7, () -> machine.result(1));
        LazyMachine stopped = Check.ran("first 1", 3);
        Check.due("result(0) when it is stopped", Check.STATE, () -> stopped.result(0));
        LazyMachine pair = Check.ran("pair 1 2", 2);
        pair.into(0);
        Check.due("result(0) behind into", Check.STATE, () -> pair.result(0));
        LazyMachine function = Check.ran("lam v0", 2);
        function.apply(1);
        Check.due("result(0) behind apply", Check.STATE, () -> function.result(0));
    }
}

/** Promise 2: put. */
public final class PutTest {
    public static void main(String[] args) {
        wrongInputs();
        edges();
        fullRow();
        Check.end();
    }

    private static void wrongInputs() {
        LazyMachine machine = new LazyMachine();
        int[] sorts = {-1, 14, 15, Integer.MIN_VALUE, Integer.MAX_VALUE};
        for (int sort : sorts) {
            Check.due("put(" + sort + ", 0)", Check.ARGUMENT, () -> machine.put(sort, 0));
        }
        int[] variables = {-1, 41, Integer.MIN_VALUE, Integer.MAX_VALUE};
        for (int x : variables) {
            Check.due("put(0, " + x + ")", Check.ARGUMENT, () -> machine.put(0, x));
        }
        for (int sort = 1; sort <= 13; sort++) {
            int it = sort;
            if (it != 3) {
                Check.due("put(" + it + ", 1)", Check.ARGUMENT, () -> machine.put(it, 1));
                Check.due("put(" + it + ", -1)", Check.ARGUMENT, () -> machine.put(it, -1));
            }
        }
        Check.due("count(0)", 0, machine.count(0));
    }

    private static void edges() {
        LazyMachine machine = new LazyMachine();
        Check.due("put(0, 0)", 1, () -> machine.put(0, 0));
        Check.due("put(0, 40)", 2, () -> machine.put(0, 40));
        Check.due("put(3, least)", 3, () -> machine.put(3, Integer.MIN_VALUE));
        Check.due("put(3, most)", 4, () -> machine.put(3, Integer.MAX_VALUE));
        for (int sort = 1; sort <= 13; sort++) {
            int it = sort;
            Check.due("put(" + it + ", 0)", 4 + it, () -> machine.put(it, 0));
        }
        Check.due("count(0)", 17, machine.count(0));
    }

    private static void fullRow() {
        LazyMachine machine = new LazyMachine();
        for (int i = 1; i < 200; i++) {
            machine.put(12, 0);
        }
        Check.due("the 200th", 200, () -> machine.put(3, 7));
        Check.due("the 201st", -1, () -> machine.put(3, 7));
        Check.due("a wrong sort behind 200", Check.ARGUMENT, () -> machine.put(14, 0));
        Check.due("a wrong x behind 200", Check.ARGUMENT, () -> machine.put(0, 41));
        Check.due("count(0)", 200, machine.count(0));
        Check.due("load()", 0, machine.load());
        // The term's nodes are no longer among those that wait.
        for (int i = 1; i <= 200; i++) {
            Check.due("again", i, machine.put(12, 0));
        }
        Check.due("one more", -1, machine.put(12, 0));
        Check.counts("both rows are full", machine, 200, 200, 1);
    }
}

/** "Terms": the edges of the heap, with the 256th cell and with one more. */
public final class CellEdgeTest {
    private static final int FRAMES = 136;
    private static final String[] WANT_TWO = {"fix 1", "let 1 2", "pair 1 2", "pair lam v0 fix v0"};
    private static final String[] WANT_ONE = {"app 1 2", "let v0 2", "pair 1 v0", "pair v0 1"};
    private static final String[] WANT_NONE = {
        "app 1 v0", "pair v0 v0", "7", "lam v0", "v0", "plus 1 2", "minus 1 2", "times 1 2", "less 1 2", "zero 1 2 3",
        "first 1", "second 1"
    };

    public static void main(String[] args) {
        lastCell();
        oneMore();
        noneWanted();
        byArgument();
        allCellsServe();
        usedAgain();
        reached();
        emptyAgain();
        Check.end();
    }

    private static void fills(String last, int wanted) {
        LazyMachine machine = Deep.at(FRAMES, 256 - wanted, last);
        int steps = machine.count(3);
        Check.due(last + ": run(1)", 1, machine.run(1));
        Check.due(last + ": cells", 256, machine.count(6));
        Check.due(last + ": steps", steps + 1, machine.count(3));
    }

    private static void lastCell() {
        Check.sentence("HEAP: at most 256 CELLS");
        for (String last : WANT_TWO) {
            fills(last, 2);
        }
        for (String last : WANT_ONE) {
            fills(last, 1);
        }
    }

    private static void oneMore() {
        Check.sentence("6 a new cell more than 256 together with those that are REACHED");
        for (String last : WANT_TWO) {
            Check.stops(last + ", one cell is left", 6, Deep.at(FRAMES, 255, last));
            Check.stops(last + ", none is left", 6, Deep.at(FRAMES, 256, last));
        }
        for (String last : WANT_ONE) {
            Check.stops(last + ", none is left", 6, Deep.at(FRAMES, 256, last));
        }
    }

    private static void noneWanted() {
        Check.sentence("of a VARIABLE the one that it is bound to; of others a new cell");
        for (String last : WANT_NONE) {
            LazyMachine machine = Deep.at(FRAMES, 256, last);
            Check.due(last + ", none is left: run(1)", 1, machine.run(1));
        }
    }

    private static void byArgument() {
        Check.sentence("ARGUMENT: at the one within the function's lambda, a new link");
        LazyMachine has = Deep.at(FRAMES, 255, "app lam 1 v0");
        Check.due("back with the function", 1, has.run(2));
        Check.due("cells", 255, has.count(6));
        Check.due("back", -1, has.count(7));
        Check.due("the 256th cell", 1, has.run(1));
        Check.due("cells", 256, has.count(6));
        Check.due("frames", FRAMES, has.count(5));

        LazyMachine full = Deep.at(FRAMES, 256, "app lam 1 v0");
        Check.due("back with the function", 1, full.run(2));
        Check.stops("a 257th cell", 6, full);
        Check.due("the frame ARGUMENT stays", FRAMES + 1, full.count(5));

        // The thunk takes the 256th cell, so that none is left for the link.
        LazyMachine link = Deep.at(FRAMES, 255, "app lam 1 2");
        Check.due("back with the function", 1, link.run(2));
        Check.due("cells", 256, link.count(6));
        Check.stops("a 257th cell", 6, link);
    }

    /** The last words fill the heap, and what lies in its last cells is used then, with the environment around it. */
    private static void serves(int wanted, String last, int want) {
        int cells = 256 - wanted;
        LazyMachine machine = Deep.at((cells - 4) / 2, cells, last);
        int most = 0;
        for (int i = 0; i < 2 * wanted; i++) {
            Check.due(last + ": run(1)", 1, machine.run(1));
            most = Math.max(most, machine.count(6));
        }
        Check.due(last + ": the most cells", 256, most);
        Check.due(last + ": run(5000)", 2, machine.run(5000));
        Check.due(last + ": result(1)", want, () -> machine.result(1));
    }

    private static void allCellsServe() {
        Check.sentence("HEAP: at most 256 CELLS");
        serves(2, "first pair plus v0 3 plus v0 4", 3);
        serves(2, "second pair plus v0 3 plus v0 4", 4);
        serves(2, "let plus v0 4 plus v0 v0", 8);
        serves(2, "app lam plus v0 v1 plus v0 4", 4);
        serves(2, "fix plus v1 6", 6);
        serves(4, "app fix lam zero v0 9 7 plus v0 0", 9);
        serves(4, "let pair plus v0 1 plus v0 2 plus first v0 second v0", 3);
    }

    private static void usedAgain() {
        Check.sentence("cells are used again when nothing leads to them any more");
        // Cells of each kind, far more than 256 of them, and few reached at a time.
        Check.number("app fix lam zero v0 7 let plus 1 2 app v2 minus v1 1 250", 7);
        Check.number("app fix lam zero v0 7 zero first pair 0 1 app v1 minus v0 1 8 250", 7);
        Check.number("app fix lam zero v0 7 zero fix 0 app v1 minus v0 1 8 250", 7);
        // A ring of cells, a new one in each round: each leads to itself, and nothing leads to it.
        Check.number("app fix lam zero v0 7 zero minus first fix pair 1 v0 1 app v1 minus v0 1 8 150", 7);
        // A full heap is left behind, and has room again.
        LazyMachine machine = Deep.at(FRAMES, 256, "v0");
        Check.due("back with a number", 1, machine.run(1));
        Check.due("cells: the last link is not reached, its thunk neither", 254, machine.count(6));
    }

    private static void reached() {
        Check.sentence("from the environment, or value, that it is at or back with, from frames, and from what these lead to");
        steps("let 1 let 2 3", 2, 4, "the environment");
        steps("let 1 lam v1", 2, 2, "a function's environment");
        steps("let 1 pair v0 v0", 2, 1, "a pair's thunks, the same twice");
        steps("pair 1 2", 1, 2, "a pair's thunks");
        steps("app 1 2", 2, 1, "a frame ARGUMENT");
        steps("fix 1", 2, 1, "a frame UPDATE");
        steps("let 1 plus 2 v0", 3, 2, "the environment of a frame LEFT");
        steps("let 1 plus 2 let 3 4", 4, 2, "no environment of a frame RIGHT, but its own");
        steps("let 1 zero 2 3 4", 3, 2, "the environment of a frame TEST");
        steps("let 1 first 2", 3, 0, "no environment of a frame PART");
        steps("let 1 pair plus v0 1 2", 2, 4, "a thunk that waits leads to its environment");
        steps("let 1 let plus v0 1 v0", 3, 3, "a thunk that is busy leads to nothing, the environment that it is in does");
        steps("let 1 7", 2, 0, "a number");
    }

    private static void steps(String term, int steps, int cells, String what) {
        LazyMachine machine = Check.loaded(term);
        Check.due(term + ": run(" + steps + ")", 1, machine.run(steps));
        Check.due(term + ": cells (" + what + ")", cells, machine.count(6));
    }

    private static void emptyAgain() {
        Check.sentence("The term's beginning again, with an empty heap and pile");
        LazyMachine machine = Deep.at(FRAMES, 256, "app 1 2");
        int steps = machine.count(3);
        for (int i = 0; i < 3; i++) {
            Check.due("run(5000)", 6, machine.run(5000));
            Check.due("restart()", 0, Check.restart(machine));
            Check.due("cells", 0, machine.count(6));
        }
        Check.due("run", 1, machine.run(steps));
        Check.due("all cells are there again", 256, machine.count(6));
        // A new term finds the heap empty, too.
        Check.due("run(1)", 6, machine.run(1));
        Check.put(machine, "let 1 v0");
        Check.due("load()", 0, machine.load());
        Check.due("cells", 0, machine.count(6));
        Check.due("run(9)", 2, machine.run(9));
    }
}

/** The promises 1 to 9: what each call answers at the edge of what it takes, where it throws, and which exception. */
public final class CallEdgeTest {
    private static final int LEAST = Integer.MIN_VALUE;
    private static final int MOST = Integer.MAX_VALUE;
    private static final int NUMBER = 3;

    public static void main(String[] args) {
        newObject();
        putSorts();
        putVariables();
        putOthers();
        putFull();
        loadNothing();
        loadBadly();
        loadAgain();
        restartWithoutTerm();
        runWithoutTerm();
        runLengths();
        runExactly();
        runBehindTheEnd();
        resultKinds();
        resultNotOver();
        intoWhich();
        intoRefused();
        intoAsks();
        applyNumbers();
        applyRefused();
        applyRoom();
        countWhats();
        countWithoutTerm();
        countNode();
        countCells();
        countMost();
        lastCalls();
        Check.end();
    }

    /** Every call that wants a term, without one: each throws, and all of them change nothing. */
    private static void wantsTerm(String where, LazyMachine machine) {
        int waiting = machine.count(0);
        Check.due(where + ": restart()", Check.STATE, Check.restart(machine));
        int[] lengths = {LEAST, -1, 0, 1, 5000, 5001, MOST};
        for (int n : lengths) {
            Check.due(where + ": run(" + n + ")", Check.STATE, () -> machine.run(n));
        }
        for (int what = -1; what <= 3; what++) {
            int it = what;
            Check.due(where + ": result(" + what + ")", Check.STATE, () -> machine.result(it));
            Check.due(where + ": into(" + what + ")", Check.STATE, () -> machine.into(it));
            Check.due(where + ": apply(" + what + ")", Check.STATE, () -> machine.apply(it));
        }
        Check.counts(where, machine, waiting, 0, 0, 0, 0, 0, 0, -1, 0, -1);
    }

    private static void newObject() {
        Check.sentence("No nodes, no term");
        LazyMachine machine = new LazyMachine();
        Check.counts("new", machine, 0, 0, 0, 0, 0, 0, 0, -1, 0, -1);
        wantsTerm("new", machine);
        Check.due("the first node", 1, () -> machine.put(NUMBER, 0));
    }

    private static void putSorts() {
        Check.sentence("IllegalArgumentException when sort is not 0 .. 13");
        LazyMachine machine = new LazyMachine();
        int[] outside = {-1, 14, LEAST, MOST};
        for (int sort : outside) {
            Check.refused("put(" + sort + ", 0)", Check.ARGUMENT, machine, () -> machine.put(sort, 0));
        }
        for (int sort = 0; sort <= 13; sort++) {
            int it = sort;
            Check.due("put(" + sort + ", 0)", sort + 1, () -> machine.put(it, 0));
        }
        for (int sort : outside) {
            Check.refused("put(" + sort + ", 0)", Check.ARGUMENT, machine, () -> machine.put(sort, 0));
        }
    }

    private static void putVariables() {
        Check.sentence("x is not 0 .. 40 for a variable");
        LazyMachine machine = new LazyMachine();
        int[] outside = {-1, 41, LEAST, MOST};
        for (int x : outside) {
            Check.refused("put(0, " + x + ")", Check.ARGUMENT, machine, () -> machine.put(0, x));
        }
        for (int x = 0; x <= 40; x++) {
            int it = x;
            Check.due("put(0, " + x + ")", x + 1, () -> machine.put(0, it));
        }
    }

    private static void putOthers() {
        Check.sentence("any number for 3, 0 for others");
        int[] numbers = {-1, 1, 40, 41, LEAST, MOST};
        for (int x : numbers) {
            LazyMachine machine = new LazyMachine();
            for (int sort = 1; sort <= 13; sort++) {
                int it = sort;
                if (sort != NUMBER) {
                    Check.refused("put(" + sort + ", " + x + ")", Check.ARGUMENT, machine, () -> machine.put(it, x));
                }
            }
            Check.due("put(3, " + x + ")", 1, () -> machine.put(NUMBER, x));
            Check.due("load()", 0, machine.load());
            Check.due("run(2)", 2, machine.run(2));
            Check.due("result(1)", x, machine.result(1));
        }
    }

    private static void putFull() {
        Check.sentence("NONE when there are 200");
        LazyMachine machine = new LazyMachine();
        for (int i = 1; i <= 199; i++) {
            Check.due("put(12, 0)", i, machine.put(12, 0));
        }
        Check.due("the 200th node", 200, () -> machine.put(NUMBER, 5));
        Check.refused("a 201st node", -1, machine, () -> machine.put(NUMBER, 6));
        Check.refused("a 201st node", -1, machine, () -> machine.put(12, 0));
        Check.refused("a 201st node of no sort", Check.ARGUMENT, machine, () -> machine.put(14, 0));
        Check.refused("a 201st node, x is not so", Check.ARGUMENT, machine, () -> machine.put(0, 41));
        Check.due("load(): what was refused is no part of it", 0, machine.load());
        Check.due("the first node behind load", 1, () -> machine.put(NUMBER, 6));
    }

    private static void loadNothing() {
        Check.sentence("how many there are, if more must come");
        LazyMachine machine = new LazyMachine();
        Check.due("load() of no nodes", 1, machine.load());
        wantsTerm("no nodes", machine);
        machine.put(NUMBER, 5);
        Check.due("load() of one", 0, machine.load());
        Check.due("count(1)", 1, machine.count(1));
        Check.due("load() of no nodes, with a term", 1, machine.load());
        wantsTerm("no nodes, with a term", machine);
    }

    private static void loadBadly() {
        Check.sentence("The nodes become the machine's term, and go; and there is no term");
        String[] bad = {"v0", "lam v1", "1 2", "pair 1"};
        int[] due = {1, 2, 2, 3};
        for (int i = 0; i < bad.length; i++) {
            LazyMachine machine = Check.ran("let 1 pair v0 v0", 2);
            Check.put(machine, bad[i]);
            Check.due("load() of " + bad[i], due[i], machine.load());
            Check.counts("load() of " + bad[i], machine, 0, 0, 0, 0, 0, 0, 0, -1, 0, -1);
            wantsTerm("load() of " + bad[i], machine);
            Check.due("the first node behind it", 1, () -> machine.put(NUMBER, 6));
            Check.due("load()", 0, machine.load());
            Check.due("run(2)", 2, machine.run(2));
            Check.due("result(1)", 6, machine.result(1));
        }
    }

    private static void loadAgain() {
        Check.sentence("The nodes become the machine's term, and go; it is at its beginning");
        // Terms of every sort, good and bad ones, one behind the other in the same object.
        String[] terms = {
            "plus minus 9 2 times 3 less 1 2", "zero 0 zero 1 2 3 4", "let 5 app lam plus v0 v1 v0", "pair 1", "zero 1 2",
            "first second pair 1 pair 6 7", "app fix lam zero v0 8 app v1 minus v0 1 3", "lam v1",
            "zero 1 2 zero 0 9 3", "plus 1 2 3", "second pair first pair 1 2 plus 4 6", "zero plus 1 minus 2 3 11 12",
            "let let 3 times v0 v0 plus v0 3"
        };
        int[] faults = {0, 0, 0, 3, 4, 0, 0, 2, 0, 4, 0, 0, 0};
        int[] results = {10, 3, 10, 0, 0, 6, 8, 0, 9, 0, 10, 11, 12};
        LazyMachine machine = new LazyMachine();
        for (int i = 0; i < terms.length; i++) {
            Check.put(machine, terms[i]);
            Check.due("load() of " + terms[i], faults[i], machine.load());
            Check.due(terms[i] + ": run(99)", faults[i] == 0 ? 2 : Check.STATE, () -> machine.run(99));
            Check.due(terms[i] + ": result(1)", faults[i] == 0 ? results[i] : Check.STATE, () -> machine.result(1));
        }
    }

    private static void restartWithoutTerm() {
        Check.sentence("IllegalStateException without a term");
        LazyMachine machine = new LazyMachine();
        machine.put(NUMBER, 5);
        Check.refused("restart() while a node waits", Check.STATE, machine, () -> Check.restart(machine));
        Check.due("load()", 0, machine.load());
        Check.refused("restart() at the beginning", 0, machine, () -> Check.restart(machine));
        for (int steps = 1; steps <= 3; steps++) {
            machine.run(steps);
            Check.due("restart()", 0, Check.restart(machine));
            Check.counts("restart()", machine, 0, 1, 1, 0, 0, 0, 0, 0, 0);
        }
        Check.due("load() of no nodes", 1, machine.load());
        Check.refused("restart()", Check.STATE, machine, () -> Check.restart(machine));
    }

    private static void runWithoutTerm() {
        Check.sentence("IllegalStateException without a term; else IllegalArgumentException");
        LazyMachine machine = new LazyMachine();
        int[] lengths = {LEAST, -1, 0, 5000, 5001, MOST};
        for (int n : lengths) {
            Check.refused("run(" + n + ")", Check.STATE, machine, () -> machine.run(n));
        }
    }

    private static void runLengths() {
        Check.sentence("IllegalArgumentException when n is not 0 .. 5000");
        LazyMachine machine = Check.loaded("app fix lam app v1 v0 1");
        int[] outside = {LEAST, -1, 5001, MOST};
        for (int n : outside) {
            Check.refused("run(" + n + ")", Check.ARGUMENT, machine, () -> machine.run(n));
        }
        Check.refused("run(0)", 1, machine, () -> machine.run(0));
        Check.due("run(1)", 1, () -> machine.run(1));
        Check.due("count(3)", 1, machine.count(3));
        Check.due("run(5000)", 1, () -> machine.run(5000));
        Check.due("count(3)", 5001, machine.count(3));
        LazyMachine over = Check.ran("1", 2);
        LazyMachine stopped = Check.ran("first 1", 3);
        for (int n : outside) {
            Check.refused("run(" + n + ") when it is over", Check.ARGUMENT, over, () -> over.run(n));
            Check.refused("run(" + n + ") when it is stopped", Check.ARGUMENT, stopped, () -> stopped.run(n));
        }
    }

    /** A term that takes so many steps. */
    private static String taking(int steps) {
        String loop = "app fix lam zero v0 7 app v1 minus v0 1 ";
        int one = Check.ran(loop + 1, 2).count(3);
        int each = Check.ran(loop + 2, 2).count(3) - one;
        int rounds = 1 + (steps - one) / each;
        // A LET is one step more.
        return Check.repeated("let 1", (steps - one) % each) + loop + rounds;
    }

    private static void runExactly() {
        Check.sentence("Up to n steps: the status behind them");
        LazyMachine last = Check.loaded(taking(5000));
        Check.due("run(5000) of 5000 steps", 2, last.run(5000));
        Check.due("count(3)", 5000, last.count(3));
        LazyMachine oneMore = Check.loaded(taking(5001));
        Check.due("run(5000) of 5001 steps", 1, oneMore.run(5000));
        Check.due("count(3)", 5000, oneMore.count(3));
        Check.due("result(0)", Check.STATE, () -> oneMore.result(0));
        Check.due("run(1)", 2, oneMore.run(1));
        Check.due("count(3)", 5001, oneMore.count(3));
        Check.due("result(1)", 7, oneMore.result(1));
        // The step with no frame left is one, too; one that can't be done is none.
        LazyMachine number = Check.loaded("1");
        Check.due("run(1)", 1, number.run(1));
        Check.due("run(1)", 2, number.run(1));
        Check.due("count(3)", 2, number.count(3));
        LazyMachine wrong = Check.loaded("first 1");
        Check.due("run(2)", 1, wrong.run(2));
        Check.due("run(1)", 3, wrong.run(1));
        Check.due("count(3)", 2, wrong.count(3));
    }

    private static void runBehindTheEnd() {
        Check.sentence("1 it goes on, 2 over, 3 .. 6 stopped");
        LazyMachine over = Check.loaded("plus 1 2");
        Check.due("run(5)", 1, over.run(5));
        Check.due("run(5000)", 2, over.run(5000));
        Check.due("count(3)", 6, over.count(3));
        Check.refused("run(0) when it is over", 2, over, () -> over.run(0));
        Check.refused("run(1) when it is over", 2, over, () -> over.run(1));
        Check.refused("run(5000) when it is over", 2, over, () -> over.run(5000));
        Check.due("result(1)", 3, over.result(1));
    }

    private static void resultKinds() {
        Check.sentence("NONE where it has none, or for others");
        String[] terms = {"5", "-1", "let 1 lam v0", "pair 1 2"};
        int[][] dues = {{0, 5, -1}, {0, -1, -1}, {1, -1, 2}, {2, -1, -1}};
        int[] others = {-1, 3, LEAST, MOST};
        for (int i = 0; i < terms.length; i++) {
            LazyMachine machine = Check.ran(terms[i], 2);
            for (int what = 0; what <= 2; what++) {
                int it = what;
                Check.refused(terms[i] + ": result(" + what + ")", dues[i][what], machine, () -> machine.result(it));
            }
            for (int what : others) {
                Check.refused(terms[i] + ": result(" + what + ")", -1, machine, () -> machine.result(what));
            }
        }
    }

    private static void resultNotOver() {
        Check.sentence("IllegalStateException when it is not over");
        LazyMachine machine = Check.loaded("5");
        int[] whats = {0, 1, 2, -1, 3};
        for (int steps = 0; steps < 2; steps++) {
            for (int what : whats) {
                Check.due("result(" + what + ") behind " + steps, Check.STATE, () -> machine.result(what));
            }
            machine.run(1);
        }
        Check.due("result(1) behind 2", 5, () -> machine.result(1));
        Check.due("restart()", 0, Check.restart(machine));
        Check.due("result(1) behind restart", Check.STATE, () -> machine.result(1));
    }

    private static void intoWhich() {
        Check.sentence("else IllegalArgumentException when k is not so");
        LazyMachine machine = Check.ran("pair 8 9", 2);
        int[] outside = {-1, 2, LEAST, MOST};
        for (int k : outside) {
            Check.refused("into(" + k + ")", Check.ARGUMENT, machine, () -> machine.into(k));
        }
        for (int k = 0; k <= 1; k++) {
            int it = k;
            Check.due("restart()", 0, Check.restart(machine));
            Check.due("run(2)", 2, machine.run(2));
            Check.due("into(" + k + ")", 1, () -> machine.into(it));
            Check.due("run(3)", 2, machine.run(3));
            Check.due("result(1)", 8 + k, () -> machine.result(1));
        }
    }

    private static void intoRefused() {
        Check.sentence("IllegalStateException when it is not over, or the result is no pair");
        LazyMachine pair = Check.loaded("pair 8 9");
        int[] ks = {0, 1, -1, 2};
        for (int steps = 0; steps < 2; steps++) {
            for (int k : ks) {
                Check.refused("into(" + k + ") behind " + steps, Check.STATE, pair, () -> pair.into(k));
            }
            pair.run(1);
        }
        Check.due("into(0) behind 2", 1, () -> pair.into(0));
        for (int k : ks) {
            Check.refused("into(" + k + ") behind into", Check.STATE, pair, () -> pair.into(k));
        }
        String[] none = {"5", "lam v0"};
        for (String term : none) {
            LazyMachine machine = Check.ran(term, 2);
            for (int k : ks) {
                Check.refused(term + ": into(" + k + ")", Check.STATE, machine, () -> machine.into(k));
            }
        }
        LazyMachine stopped = Check.ran("app pair 1 2 3", 3);
        for (int k : ks) {
            Check.refused("stopped: into(" + k + ")", Check.STATE, stopped, () -> stopped.into(k));
        }
    }

    private static void intoAsks() {
        Check.sentence("thunk is asked (no step); the pile is empty, so that what it comes to is the result then");
        LazyMachine waits = Check.ran("pair 8 9", 2);
        Check.due("into(1), it waits", 1, waits.into(1));
        Check.counts("into(1), it waits", waits, 0, 3, 1, 2, 1, 1, 1, 2, 1);
        Check.due("run(2)", 1, waits.run(2));
        Check.due("run(1)", 2, waits.run(1));
        LazyMachine done = Check.ran("fix pair 8 v0", 2);
        Check.due("into(1), it is done", 1, done.into(1));
        Check.counts("into(1), it is done", done, 0, 4, 1, 4, 1, 0, 3, -1, 1);
        Check.due("run(0)", 1, done.run(0));
        Check.due("run(1)", 2, done.run(1));
        Check.due("result(0)", 2, done.result(0));
        Check.due("count(3)", 5, done.count(3));
    }

    private static void applyNumbers() {
        Check.sentence("gets a new thunk that is done with number v");
        int[] numbers = {LEAST, -1, 0, 1, MOST};
        for (int v : numbers) {
            LazyMachine machine = Check.ran("lam plus v0 1", 2);
            Check.due("apply(" + v + ")", 1, () -> machine.apply(v));
            Check.counts("apply(" + v + ")", machine, 0, 4, 1, 2, 0, 0, 2, 1, 0);
            Check.due("run(5)", 1, machine.run(5));
            Check.due("run(1)", 2, machine.run(1));
            Check.due("result(1)", v + 1, () -> machine.result(1));
            Check.due("forced", 0, machine.count(4));
        }
    }

    private static void applyRefused() {
        Check.sentence("IllegalStateException when it is not over, or the result is no function");
        LazyMachine function = Check.loaded("lam v0");
        for (int steps = 0; steps < 2; steps++) {
            Check.refused("apply(1) behind " + steps, Check.STATE, function, () -> function.apply(1));
            function.run(1);
        }
        Check.due("apply(1) behind 2", 1, () -> function.apply(1));
        Check.refused("apply(1) behind apply", Check.STATE, function, () -> function.apply(1));
        String[] none = {"5", "pair 1 2"};
        for (String term : none) {
            LazyMachine machine = Check.ran(term, 2);
            Check.refused(term + ": apply(1)", Check.STATE, machine, () -> machine.apply(1));
        }
        LazyMachine stopped = Check.ran("plus lam v0 1", 3);
        Check.refused("stopped: apply(1)", Check.STATE, stopped, () -> stopped.apply(1));
    }

    /** A machine that is over with a function that keeps so many cells, 254 to 256 of them. */
    private static LazyMachine keeping(int cells) {
        LazyMachine machine = Check.ran("app app fix lam lam zero v1 " + Check.repeated("let v0", cells - 254)
            + "lam v0 app app v2 minus v1 1 pair v0 0 62 0", 2);
        Check.due("cells", cells, machine.count(6));
        return machine;
    }

    private static void applyRoom() {
        Check.sentence("6 when there is no room for both");
        LazyMachine room = keeping(254);
        int steps = room.count(3);
        Check.due("apply(9) with room for two", 1, () -> room.apply(9));
        Check.due("cells", 256, room.count(6));
        Check.due("steps", steps, room.count(3));
        Check.due("run(2)", 2, room.run(2));
        Check.due("result(1)", 9, room.result(1));
        for (int cells = 255; cells <= 256; cells++) {
            LazyMachine full = keeping(cells);
            int[] before = {0, full.count(1), 6, full.count(3), full.count(4), 0, cells, -1, full.count(8)};
            Check.due("apply(9) with room for " + (256 - cells), 6, () -> full.apply(9));
            Check.counts("apply(9) with room for " + (256 - cells), full, before);
            Check.refused("run(1)", 6, full, () -> full.run(1));
            Check.refused("apply(9)", Check.STATE, full, () -> full.apply(9));
            Check.due("result(0)", Check.STATE, () -> full.result(0));
        }
    }

    private static void countWhats() {
        Check.sentence("NONE for others");
        int[] others = {-1, 9, LEAST, MOST};
        LazyMachine machine = Check.ran("let 1 pair v0 v0", 2);
        Check.put(machine, "1 2");
        for (int what : others) {
            Check.refused("count(" + what + ")", -1, machine, () -> machine.count(what));
        }
        Check.counts("0 .. 8", machine, 2, 5, 2, 3, 0, 0, 1, -1, 0);
    }

    private static void countWithoutTerm() {
        Check.sentence("1 nodes of the term (0 without), 2 the status (0 without a term), 7 NONE without a term");
        LazyMachine machine = new LazyMachine();
        Check.counts("new", machine, 0, 0, 0, 0, 0, 0, 0, -1, 0);
        machine.put(NUMBER, 5);
        Check.counts("a node waits", machine, 1, 0, 0, 0, 0, 0, 0, -1, 0);
        machine.load();
        Check.counts("loaded", machine, 0, 1, 1, 0, 0, 0, 0, 0, 0);
        machine.load();
        Check.counts("no term any more", machine, 0, 0, 0, 0, 0, 0, 0, -1, 0);
    }

    private static void countNode() {
        Check.sentence("7 the node that it is at (NONE when it is back, over, or without a term)");
        LazyMachine machine = Check.loaded("zero 0 5 6");
        int[] nodes = {0, 1, -1, 2, -1, -1};
        for (int node : nodes) {
            Check.due("count(7) behind " + machine.count(3), node, machine.count(7));
            machine.run(1);
        }
        Check.due("count(7) when it is over", -1, machine.count(7));
        Check.due("count(7) when it stopped at a node", 1, Check.ran("fix v0", 4).count(7));
        Check.due("count(7) when it stopped, back", -1, Check.ran("first 1", 3).count(7));
    }

    private static void countCells() {
        Check.sentence("6 cells that are reached (of a stopped machine, too)");
        Check.due("none", 0, Check.ran("let 1 7", 2).count(6));
        Check.due("a function's", 2, Check.ran("let 1 lam v0", 2).count(6));
        Check.due("3", 3, Check.ran("let 1 app 1 2", 3).count(6));
        Check.due("4", 2, Check.ran("fix v0", 4).count(6));
        Check.due("5", 44, Check.ran(Deep.words(20, 0, 180, "first 1"), 5).count(6));
        Check.due("6, one is left", 255, Check.ran(Deep.words(125, 1, 10, "fix 1"), 6).count(6));
        Check.due("6, none is left", 256, Check.ran(Deep.words(126, 0, 10, "fix 1"), 6).count(6));
    }

    private static void countMost() {
        Check.sentence("8 the most frames that there were");
        LazyMachine machine = Check.loaded("plus first pair 1 2 3");
        int[] frames = {0, 1, 2, 2, 2, 2, 1, 1, 1, 0, 0};
        int[] most = {0, 1, 2, 2, 2, 2, 2, 2, 2, 2, 2};
        for (int i = 0; i < frames.length; i++) {
            Check.due("count(5) behind " + i, frames[i], machine.count(5));
            Check.due("count(8) behind " + i, most[i], machine.count(8));
            machine.run(1);
        }
        Check.due("restart()", 0, Check.restart(machine));
        Check.due("count(8) at the beginning", 0, machine.count(8));
    }

    private static void lastCalls() {
        Check.sentence("An object is used for at most 512 calls after it has been made");
        LazyMachine machine = Check.loaded("app fix lam zero v0 7 let pair v0 v0 app v2 plus 1 first v0 1");
        int calls = machine.count(1) + 2;
        int steps = 0;
        for (; calls < 511; calls++) {
            machine.run(5000);
            steps += 5000;
        }
        Check.due("the 512th call", steps, machine.count(3));
    }
}

/** "Terms": the edges of the pile, with the 200th frame and with one more. */
public final class FrameEdgeTest {
    private static final int FEW_CELLS = 44;
    private static final String[] BRING_ONE = {
        "app 1 2", "app 1 v0", "plus 1 2", "minus 1 2", "times 1 2", "less 1 2", "zero 1 2 3", "fix 1", "first 1", "second 1"
    };

    public static void main(String[] args) {
        atNodes();
        atVariable();
        byPart();
        byLeft();
        noneWanted();
        emptyAgain();
        Check.end();
    }

    private static void goesOn(String where, LazyMachine machine, int frames) {
        Check.due(where + ": run(1)", 1, () -> machine.run(1));
        Check.due(where + ": frames", frames, machine.count(5));
    }

    private static void atNodes() {
        Check.sentence("FRAMES lie on its pile, at most 200");
        for (String last : BRING_ONE) {
            LazyMachine has = Deep.at(199, FEW_CELLS, last);
            int node = has.count(7);
            int steps = has.count(3);
            Check.due(last + ", 199 frames: most", 199, has.count(8));
            goesOn(last + ", the 200th frame", has, 200);
            Check.due(last + ", the 200th frame: most", 200, has.count(8));
            Check.due(last + ", the 200th frame: node", node + 1, has.count(7));
            Check.due(last + ", the 200th frame: steps", steps + 1, has.count(3));
        }
        Check.sentence("5 a frame more than 200");
        for (String last : BRING_ONE) {
            Check.stops(last + ", a 201st frame", 5, Deep.at(200, FEW_CELLS, last));
        }
    }

    private static void atVariable() {
        Check.sentence("if it waits it is busy now, a frame UPDATE of it comes");
        LazyMachine has = Deep.at(199, FEW_CELLS, "let plus 1 2 v0");
        goesOn("LET", has, 199);
        int forced = has.count(4);
        int node = has.count(7);
        goesOn("UPDATE, the 200th frame", has, 200);
        Check.due("forced", forced + 1, has.count(4));
        Check.due("node", node - 3, has.count(7));

        LazyMachine full = Deep.at(200, FEW_CELLS, "let plus 1 2 v0");
        goesOn("LET", full, 200);
        Check.stops("UPDATE, a 201st frame", 5, full);
        // Done: no frame is wanted.
        LazyMachine done = Deep.at(200, FEW_CELLS, "v0");
        goesOn("a thunk that is done", done, 200);
        Check.due("back", -1, done.count(7));
    }

    private static void byPart() {
        Check.sentence("by the topmost frame, which goes: PART: the pair's first, or second, thunk is asked");
        String[] parts = {"first pair plus 1 2 3", "second pair 3 plus 1 2"};
        for (String last : parts) {
            LazyMachine machine = Deep.at(199, FEW_CELLS, last);
            int forced = machine.count(4);
            goesOn(last + ": PART", machine, 200);
            goesOn(last + ": back with the pair", machine, 200);
            goesOn(last + ": UPDATE where PART was", machine, 200);
            Check.due(last + ": forced", forced + 1, machine.count(4));
            Check.due(last + ": most", 200, machine.count(8));
            Check.stops(last + ": LEFT above UPDATE", 5, machine);
        }
    }

    private static void byLeft() {
        Check.sentence("LEFT: a frame RIGHT with the number");
        String[] reckonings = {"plus 1 2", "minus 1 2", "times 1 2", "less 1 2"};
        for (String last : reckonings) {
            LazyMachine machine = Deep.at(199, FEW_CELLS, last);
            int node = machine.count(7);
            goesOn(last + ": LEFT", machine, 200);
            goesOn(last + ": back with 1", machine, 200);
            goesOn(last + ": RIGHT where LEFT was", machine, 200);
            Check.due(last + ": node", node + 2, machine.count(7));
            goesOn(last + ": back with 2", machine, 200);
            goesOn(last + ": reckoned", machine, 199);
            Check.due(last + ": most", 200, machine.count(8));
        }
    }

    private static void noneWanted() {
        Check.sentence("5 a frame more than 200");
        String[] without = {"7", "lam v0", "v0", "let 1 2", "let v0 2", "pair 1 2", "pair v0 v0"};
        for (String last : without) {
            goesOn(last + ", with 200 frames", Deep.at(200, FEW_CELLS, last), 200);
        }
    }

    private static void emptyAgain() {
        Check.sentence("The term's beginning again, with an empty heap and pile");
        LazyMachine machine = Deep.at(200, FEW_CELLS, "first 1");
        int steps = machine.count(3);
        Check.due("run(5000)", 5, machine.run(5000));
        Check.due("restart()", 0, Check.restart(machine));
        Check.counts("at the beginning", machine, 0, machine.count(1), 1, 0, 0, 0, 0, 0, 0);
        Check.due("run", 1, machine.run(steps));
        Check.due("the pile has 200 frames again", 200, machine.count(5));
        Check.stops("first 1", 5, machine);
    }
}

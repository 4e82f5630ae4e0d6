/** "Terms": what stops the machine, each beside the nearest that does not; and of several the lesser number. */
public final class StopEdgeTest {
    private static final String[] VALUES = {"1", "lam 1", "pair 1 2"};
    private static final int A_NUMBER = 0;
    private static final int A_FUNCTION = 1;
    private static final int A_PAIR = 2;

    public static void main(String[] args) {
        wrong();
        wrongByThunk();
        hole();
        holeByPart();
        lesserNumber();
        statusStays();
        Check.end();
    }

    /** The frame that is due behind these steps wants a value of this sort; "?" is where the value stands. */
    private static void wants(String term, int steps, int sort) {
        for (int i = 0; i < VALUES.length; i++) {
            String words = term.replace("?", VALUES[i]);
            LazyMachine machine = Check.loaded(words);
            Check.due(words + ": run(" + steps + ")", 1, machine.run(steps));
            Check.due(words + ": it is back", -1, machine.count(7));
            if (i == sort) {
                Check.due(words + ": run(1)", 1, machine.run(1));
                Check.due(words + ": steps", steps + 1, machine.count(3));
            } else {
                Check.stops(words, 3, machine);
            }
        }
    }

    private static void wrong() {
        Check.sentence("3 WRONG: a function, number, or pair is wanted and the value is none");
        wants("app ? 1", 2, A_FUNCTION);
        String[] reckonings = {"plus", "minus", "times", "less"};
        for (String reckoning : reckonings) {
            wants(reckoning + " ? 1", 2, A_NUMBER);
            wants(reckoning + " 1 ?", 4, A_NUMBER);
        }
        wants("zero ? 1 2", 2, A_NUMBER);
        wants("first ?", 2, A_PAIR);
        wants("second ?", 2, A_PAIR);
    }

    private static void wrongByThunk() {
        Check.sentence("UPDATE: its thunk is done with the value; back with it");
        // A value that comes out of a thunk, new or done before, is looked at in the same way.
        wants("let ? app v0 1", 5, A_FUNCTION);
        wants("let ? zero v0 1 2", 5, A_NUMBER);
        wants("let ? second v0", 5, A_PAIR);
        // UPDATE itself takes every value.
        for (String value : VALUES) {
            LazyMachine machine = Check.loaded("fix " + value);
            Check.due("fix " + value + ": run(3)", 1, machine.run(3));
            Check.due("fix " + value + ": frames", 0, machine.count(5));
            Check.due("fix " + value + ": run(1)", 2, machine.run(1));
        }
    }

    private static void hole() {
        Check.sentence("done: back with its value; BUSY: HOLE");
        LazyMachine busy = Check.loaded("fix v0");
        Check.due("run(1)", 1, busy.run(1));
        Check.stops("the thunk of FIX, within it", 4, busy);

        LazyMachine last = Check.loaded("fix plus 1 v0");
        Check.due("run(4)", 1, last.run(4));
        Check.stops("the thunk of FIX, at the last place within it", 4, last);

        // Behind UPDATE it is done.
        LazyMachine done = Check.loaded("app fix lam v1 1");
        Check.due("run(5)", 1, done.run(5));
        Check.due("node", 3, done.count(7));
        Check.due("the thunk of FIX, behind UPDATE", 1, done.run(1));
        Check.due("over", 2, done.run(1));
        Check.due("result(2)", 2, done.result(2));

        // A thunk that waited, and comes back to itself.
        LazyMachine own = Check.loaded("let fix pair plus 1 first v0 2 first v0");
        Check.due("run(9)", 1, own.run(9));
        Check.due("forced", 3, own.count(4));
        Check.due("run(5000)", 4, own.run(5000));
        Check.due("back", -1, own.count(7));
        Check.number("let fix pair plus 1 second v0 2 first v0", 3);
    }

    private static void holeByPart() {
        Check.sentence("PART: the pair's first, or second, thunk is asked, as above");
        String[] busy = {"fix first pair v0 1", "fix second pair 1 v0"};
        for (String term : busy) {
            LazyMachine machine = Check.loaded(term);
            Check.due(term + ": run(3)", 1, machine.run(3));
            Check.stops(term, 4, machine);
            Check.due(term + ": PART stays", 2, machine.count(5));
        }
        String[] waits = {"fix second pair v0 1", "fix first pair 1 v0"};
        for (String term : waits) {
            Check.number(term, 1);
        }
        // Behind UPDATE the pair's thunk is done with the pair itself.
        LazyMachine done = Check.ran("second fix pair 1 v0", 2);
        Check.due("result(0)", 2, done.result(0));
        Check.due("forced", 1, done.count(4));
    }

    private static void lesserNumber() {
        Check.sentence("Of several the lesser number");
        // 3 and 6: no function, and no cell for the link.
        String[] none = {"1", "pair v0 v0"};
        for (String value : none) {
            LazyMachine wrong = Deep.at(136, 255, "app " + value + " 2");
            Check.due("run(2)", 1, wrong.run(2));
            Check.due("cells", 256, wrong.count(6));
            Check.stops("app " + value + " 2, with 256 cells", 3, wrong);
        }
        LazyMachine function = Deep.at(136, 255, "app lam 1 2");
        Check.due("run(2)", 1, function.run(2));
        Check.stops("app lam 1 2, with 256 cells", 6, function);
        // 4 and 5: busy, and no room for a frame.
        LazyMachine hole = Deep.at(199, 44, "fix v0");
        Check.due("run(1)", 1, hole.run(1));
        Check.due("frames", 200, hole.count(5));
        Check.stops("fix v0, with 200 frames", 4, hole);
        // 5 and 6: room for neither frame nor cell; then for the frame alone, and for the cell alone.
        String[] both = {"app 1 2", "fix 1"};
        for (String last : both) {
            Check.stops(last + ", with 200 frames and 256 cells", 5, Deep.at(200, 256, last));
            Check.stops(last + ", with 199 frames and 256 cells", 6, Deep.at(199, 256, last));
            Check.stops(last + ", with 200 frames and 254 cells", 5, Deep.at(200, 254, last));
            Check.due(last + ", with 199 frames and 254 cells", 1, Deep.at(199, 254, last).run(1));
        }
        // 6 alone: no frame is wanted.
        Check.stops("let 1 2, with 200 frames and 256 cells", 6, Deep.at(200, 256, "let 1 2"));
        Check.stops("pair 1 2, with 200 frames and 256 cells", 6, Deep.at(200, 256, "pair 1 2"));
    }

    private static void statusStays() {
        Check.sentence("A step that can't be done STOPS the machine, and changes nothing");
        String[] terms = {"first 1", "fix v0", Deep.words(20, 0, 180, "first 1"), Deep.words(126, 0, 10, "app 1 2")};
        for (int i = 0; i < terms.length; i++) {
            int status = 3 + i;
            LazyMachine machine = Check.ran(terms[i], status);
            Check.refused("run(0)", status, machine, () -> machine.run(0));
            Check.refused("run(5001)", Check.ARGUMENT, machine, () -> machine.run(5001));
            Check.refused("into(0)", Check.STATE, machine, () -> machine.into(0));
            Check.refused("apply(0)", Check.STATE, machine, () -> machine.apply(0));
            Check.due("result(0)", Check.STATE, () -> machine.result(0));
            int steps = machine.count(3);
            Check.due("restart()", 0, Check.restart(machine));
            Check.due("it stops at the same step again", 1, machine.run(steps));
            Check.stops(terms[i], status, machine);
        }
    }
}

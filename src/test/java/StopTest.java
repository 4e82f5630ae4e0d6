/** What stops the machine, and that such a step changes nothing. */
public final class StopTest {
    public static void main(String[] args) {
        wrong();
        hole();
        pileFull();
        heapFull();
        lesserNumber();
        Check.end();
    }

    /** Stops with the status; then: steps, forced, frames, cells, node. */
    private static LazyMachine stops(String term, int status, int... wants) {
        LazyMachine machine = Check.ran(term, status);
        int[] whats = {3, 4, 5, 6, 7};
        for (int i = 0; i < wants.length; i++) {
            Check.due(term + ": count(" + whats[i] + ")", wants[i], machine.count(whats[i]));
        }
        int steps = machine.count(3);
        Check.due(term + ": count(2)", status, machine.count(2));
        Check.due(term + ": run(5000)", status, machine.run(5000));
        Check.due(term + ": result(0)", Check.STATE, () -> machine.result(0));
        Check.due(term + ": into(0)", Check.STATE, () -> machine.into(0));
        Check.due(term + ": apply(0)", Check.STATE, () -> machine.apply(0));
        Check.due(term + ": steps stay", steps, machine.count(3));
        return machine;
    }

    private static void wrong() {
        stops("app 1 2", 3, 2, 0, 1, 1, -1);
        stops("app pair 1 2 3", 3, 2, 0, 1, 3, -1);
        stops("plus lam v0 1", 3, 2, 0, 1, 0, -1);
        stops("minus pair 1 2 1", 3, 2, 0, 1, 2, -1);
        stops("times 1 lam v0", 3, 4, 0, 1, 0, -1);
        stops("less 1 pair 1 2", 3, 4, 0, 1, 2, -1);
        stops("zero lam v0 1 2", 3, 2, 0, 1, 0, -1);
        stops("zero pair 1 2 1 2", 3, 2, 0, 1, 2, -1);
        stops("first 1", 3, 2, 0, 1, 0, -1);
        stops("second lam v0", 3, 2, 0, 1, 0, -1);
    }

    private static void hole() {
        stops("fix v0", 4, 1, 1, 1, 2, 1);
        stops("fix plus v0 1", 4, 2, 1, 2, 2, 2);
        stops("let fix app v0 1 v0", 4, 4, 2, 3, 4, 3);
        // A part that is busy: both the frame and the pair stay.
        stops("fix first pair v0 1", 4, 3, 1, 2, 3, -1);
        stops("fix second pair 1 v0", 4, 3, 1, 2, 3, -1);
        // A thunk that waited is busy, too, and wants itself.
        stops("first fix pair first v0 1", 4, 7, 2, 2, 4, -1);
    }

    private static void deepStops(int levels, int lets, int firsts, String last, int status, int frames, int cells) {
        String term = Deep.words(levels, lets, firsts, last);
        LazyMachine machine = stops(term, status);
        Check.due(term + ": frames", frames, machine.count(5));
        Check.due(term + ": cells", cells, machine.count(6));
    }

    private static void pileFull() {
        // Each round leaves one frame PART; APPLY's frame comes and goes.
        LazyMachine rounds = stops("app fix lam first app v1 v0 1", 5, 5 + 4 * 199 + 1, 1, 200, 4, 4);
        Check.due("most", 200, rounds.count(8));

        String[] bringFrames = {
            "app 1 2", "app 1 v0", "plus 1 2", "minus 1 2", "times 1 2", "less 1 2", "zero 1 2 3", "fix 1", "first 1",
            "second 1"
        };
        for (String last : bringFrames) {
            deepStops(20, 0, 180, last, 5, 200, 44);
        }
        // The thunk that waits is not busy when its frame has no room.
        String waits = "let plus 1 2 " + Deep.words(20, 0, 180, "v2");
        LazyMachine asked = stops(waits, 5);
        Check.due("frames", 200, asked.count(5));
        Check.due("forced", 22, asked.count(4));
        Check.due("most", 200, asked.count(8));

        // With one frame less each goes on, and is wrong only later: the 200th frame has room.
        String[] wrongLater = {"app 1 2", "first 1", "plus lam v0 1", "zero lam v0 1 1"};
        for (String last : wrongLater) {
            LazyMachine machine = stops(Deep.words(20, 0, 179, last), 3);
            Check.due(last + ": frames", 200, machine.count(5));
            Check.due(last + ": most", 200, machine.count(8));
        }
        String[] doneLater = {"plus 1 2", "zero 1 2 3", "fix 1", "first pair 1 2"};
        for (String last : doneLater) {
            LazyMachine machine = stops(Deep.words(20, 0, 179, last), 3);
            Check.due(last + ": frames", 199, machine.count(5));
            Check.due(last + ": most", 200, machine.count(8));
        }
    }

    private static void heapFull() {
        // No cell is left.
        deepStops(126, 0, 10, "app 1 2", 6, 136, 256);
        deepStops(126, 0, 10, "fix 1", 6, 136, 256);
        deepStops(126, 0, 10, "let v0 1", 6, 136, 256);
        deepStops(126, 0, 10, "let 1 1", 6, 136, 256);
        deepStops(126, 0, 10, "pair 1 v0", 6, 136, 256);
        deepStops(126, 0, 10, "pair v0 1", 6, 136, 256);
        deepStops(126, 0, 10, "pair 1 2", 6, 136, 256);
        deepStops(126, 0, 10, "app lam 1 v0", 6, 137, 256);
        // None is wanted. A number keeps nothing; ARGUMENT keeps the thunk, but not its link.
        deepStops(126, 0, 10, "pair v0 v0", 3, 135, 254);
        deepStops(126, 0, 10, "app 1 v0", 3, 137, 255);
        deepStops(126, 0, 10, "lam v0", 3, 136, 256);
        // One cell is left.
        deepStops(125, 1, 10, "fix 1", 6, 135, 255);
        deepStops(125, 1, 10, "let 1 1", 6, 135, 255);
        deepStops(125, 1, 10, "pair 1 2", 6, 135, 255);
        deepStops(125, 1, 10, "app lam 1 2", 6, 136, 256);
        deepStops(125, 1, 10, "app 1 2", 3, 136, 256);
        deepStops(125, 1, 10, "let v0 lam v0", 3, 135, 256);
        deepStops(125, 1, 10, "let v0 let v0 1", 6, 135, 256);
        deepStops(125, 1, 10, "pair 1 v0", 3, 134, 252);
        // Two are left.
        deepStops(125, 0, 10, "fix lam v0", 3, 135, 256);
        deepStops(125, 0, 10, "let 1 lam v0", 3, 135, 256);
        deepStops(125, 0, 10, "pair 1 pair 1 2", 3, 134, 252);
        deepStops(125, 0, 0, "pair 1 2", 3, 125, 256);
        deepStops(125, 0, 10, "app lam lam v0 1", 3, 135, 256);
        // Many more cells than 256 over time, of which few are reached.
        Check.number("app app fix lam lam zero v1 v0 app app v2 minus v1 1 v0 250 3", 3);
    }

    private static void lesserNumber() {
        // 256 cells and 200 frames: the frame comes ahead of the cell.
        deepStops(126, 0, 74, "app 1 2", 5, 200, 256);
        deepStops(126, 0, 74, "fix 1", 5, 200, 256);
        deepStops(126, 0, 74, "let 1 1", 6, 200, 256);
        deepStops(126, 0, 74, "pair 1 2", 6, 200, 256);
        deepStops(126, 0, 73, "app 1 2", 6, 199, 256);
        deepStops(126, 0, 73, "fix 1", 6, 199, 256);
        // A function is wanted and there is no cell for the link.
        deepStops(125, 1, 10, "app 1 2", 3, 136, 256);
        // Busy, with 200 frames: the hole comes ahead of the frame.
        LazyMachine busy = stops("fix " + Deep.words(20, 0, 179, "v2"), 4);
        Check.due("frames", 200, busy.count(5));
    }
}

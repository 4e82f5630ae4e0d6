/**
 * Terms that come to their last words with so many frames and cells: each level leaves a frame LEFT whose
 * environment keeps a link and its thunk, done with a number; each LET keeps a link; each FIRST a frame.
 */
final class Deep {
    private Deep() {
    }

    static String words(int levels, int lets, int firsts, String last) {
        return "app fix lam zero v0 " + Check.repeated("let v0", lets) + Check.repeated("first", firsts) + last
            + " plus app v1 minus v0 1 0 " + levels;
    }

    /** A machine that has come to the last words, ahead of their first step. */
    static LazyMachine at(int frames, int cells, String last) {
        int lets = cells % 2;
        int levels = (cells - 4 - lets) / 2;
        int firsts = frames - levels;
        LazyMachine machine = Check.loaded(words(levels, lets, firsts, last));
        String where = "ahead of " + last + ": ";
        Check.due(where + "run", 1, machine.run(stepsTo(levels, lets, firsts)));
        Check.due(where + "frames", frames, machine.count(5));
        Check.due(where + "cells", cells, machine.count(6));
        Check.due(where + "node", 5 + 2 * lets + firsts, machine.count(7));
        return machine;
    }

    /** A function in the last place takes one step, and is none of what its frame wants. */
    private static int stepsTo(int levels, int lets, int firsts) {
        return Check.ran(words(levels, lets, firsts, "lam v0"), 3).count(3) - 1;
    }
}

/**
 * A machine for terms that are worked out only when they are needed, and once at most.
 * All rows are made with the object and used again, so that no call makes anything but an exception.
 */
public final class LazyMachine {
    public static final int NONE = -1;

    private static final int MOST_NODES = 200;
    private static final int MOST_CELLS = 256;
    private static final int MOST_FRAMES = 200;
    private static final int MOST_STEPS = 5000;
    private static final int MOST_VARIABLE = 40;
    private static final int MOST_PARTS = 3;

    // Sorts of nodes, numbered as the document tells them.
    private static final int VARIABLE = 0;
    private static final int LAMBDA = 1;
    private static final int APPLY = 2;
    private static final int NUMBER = 3;
    private static final int PLUS = 4;
    private static final int MINUS = 5;
    private static final int TIMES = 6;
    private static final int LESS = 7;
    private static final int ZERO = 8;
    private static final int FIX = 9;
    private static final int LET = 10;
    private static final int PAIR = 11;
    private static final int FIRST = 12;
    private static final int SECOND = 13;
    private static final int[] PARTS = {0, 1, 2, 0, 2, 2, 2, 2, 3, 1, 2, 2, 1, 1};

    // What a cell is. A thunk that is done bears the sort of its value, numbered as result(0) tells it.
    private static final int DONE_NUMBER = 0;
    private static final int DONE_FUNCTION = 1;
    private static final int DONE_PAIR = 2;
    private static final int WAITS = 3;
    private static final int BUSY = 4;
    private static final int LINK = 5;

    // Sorts of frames.
    private static final int UPDATE = 0;
    private static final int ARGUMENT = 1;
    private static final int LEFT = 2;
    private static final int RIGHT = 3;
    private static final int TEST = 4;
    private static final int PART = 5;

    // The status, numbered as the document tells it.
    private static final int NO_TERM = 0;
    private static final int GOES_ON = 1;
    private static final int OVER = 2;
    private static final int WRONG = 3;
    private static final int HOLE = 4;
    private static final int PILE_FULL = 5;
    private static final int HEAP_FULL = 6;

    private final Heap heap;
    private final Pile pile;
    private Term waiting;
    private Term term;
    private int status;
    private int steps;
    private int forced;

    // Back with the value, or else at the node in the environment.
    private boolean back;
    private int node;
    private int environment;
    private int valueSort;
    private int valueFirst;
    private int valueSecond;

    public LazyMachine() {
        heap = new Heap();
        pile = new Pile();
        waiting = new Term();
        term = new Term();
        status = NO_TERM;
        environment = NONE;
        valueFirst = NONE;
        valueSecond = NONE;
    }

    public int put(int sort, int x) throws IllegalArgumentException {
        if (sort < VARIABLE || sort > SECOND) {
            throw new IllegalArgumentException("no such sort of node");
        }
        if (!mayBear(sort, x)) {
            throw new IllegalArgumentException("x is not one for this sort of node");
        }
        return waiting.add(sort, x) ? waiting.size() : NONE;
    }

    public int load() {
        int fault = waiting.settle();
        // The two terms change places: the old one's rows take the nodes that come next.
        Term loaded = waiting;
        waiting = term;
        term = loaded;
        waiting.clear();
        if (fault != 0) {
            term.clear();
        }
        begin(fault == 0 ? GOES_ON : NO_TERM);
        return fault;
    }

    public void restart() throws IllegalStateException {
        if (status == NO_TERM) {
            throw new IllegalStateException("there is no term");
        }
        begin(GOES_ON);
    }

    public int run(int n) throws IllegalStateException, IllegalArgumentException {
        if (status == NO_TERM) {
            throw new IllegalStateException("there is no term");
        }
        if (n < 0 || n > MOST_STEPS) {
            throw new IllegalArgumentException("n is not 0 .. 5000");
        }
        for (int i = 0; i < n && status == GOES_ON; i++) {
            status = back ? stepBack() : stepAt();
            if (status == GOES_ON || status == OVER) {
                steps++;
            }
        }
        return status;
    }

    public int result(int what) throws IllegalStateException {
        if (status != OVER) {
            throw new IllegalStateException("it is not over");
        }
        if (what == 0) {
            return valueSort;
        }
        boolean has = what == 1 && valueSort == DONE_NUMBER || what == 2 && valueSort == DONE_FUNCTION;
        return has ? valueFirst : NONE;
    }

    public int into(int k) throws IllegalStateException, IllegalArgumentException {
        if (status != OVER || valueSort != DONE_PAIR) {
            throw new IllegalStateException("there is no pair as the result");
        }
        if (k != 0 && k != 1) {
            throw new IllegalArgumentException("k is not 0 or 1");
        }
        status = ask(k == 0 ? valueFirst : valueSecond);
        return status;
    }

    public int apply(int v) throws IllegalStateException {
        if (status != OVER || valueSort != DONE_FUNCTION) {
            throw new IllegalStateException("there is no function as the result");
        }
        if (hasRoomFor(2)) {
            enterFunction(heap.take(DONE_NUMBER, v, NONE));
            status = GOES_ON;
        } else {
            status = HEAP_FULL;
        }
        return status;
    }

    public int count(int what) {
        switch (what) {
            case 0:
                return waiting.size();
            case 1:
                return term.size();
            case 2:
                return status;
            case 3:
                return steps;
            case 4:
                return forced;
            case 5:
                return pile.size();
            case 6:
                markRoots();
                return heap.spreadMarks();
            case 7:
                return status == NO_TERM || back ? NONE : node;
            case 8:
                return pile.most();
            default:
                return NONE;
        }
    }

    private static boolean mayBear(int sort, int x) {
        if (sort == VARIABLE) {
            return x >= 0 && x <= MOST_VARIABLE;
        }
        return sort == NUMBER || x == 0;
    }

    private void begin(int beginning) {
        heap.empty();
        pile.empty();
        steps = 0;
        forced = 0;
        status = beginning;
        enter(0, NONE);
    }

    private void enter(int nextNode, int nextEnvironment) {
        back = false;
        node = nextNode;
        environment = nextEnvironment;
    }

    private int backWith(int sort, int first, int second) {
        back = true;
        valueSort = sort;
        valueFirst = first;
        valueSecond = second;
        return GOES_ON;
    }

    private int stepAt() {
        switch (term.sort(node)) {
            case VARIABLE:
                return ask(heap.boundTo(environment, term.x(node)));
            case LAMBDA:
                return backWith(DONE_FUNCTION, node, environment);
            case APPLY:
                return stepApply();
            case NUMBER:
                return backWith(DONE_NUMBER, term.x(node), NONE);
            case ZERO:
                return stepUnder(TEST, node, environment);
            case FIX:
                return stepFix();
            case LET:
                return stepLet();
            case PAIR:
                return stepPair();
            case FIRST:
                return stepUnder(PART, 0, NONE);
            case SECOND:
                return stepUnder(PART, 1, NONE);
            default:
                return stepUnder(LEFT, node, environment);
        }
    }

    private int stepUnder(int frame, int first, int second) {
        if (pile.isFull()) {
            return PILE_FULL;
        }
        pile.add(frame, first, second);
        enter(term.part(node, 0), environment);
        return GOES_ON;
    }

    private int stepApply() {
        if (pile.isFull()) {
            return PILE_FULL;
        }
        int argument = term.part(node, 1);
        if (!hasRoomFor(cellsFor(argument))) {
            return HEAP_FULL;
        }
        return stepUnder(ARGUMENT, thunkFor(argument), NONE);
    }

    private int stepFix() {
        if (pile.isFull()) {
            return PILE_FULL;
        }
        if (!hasRoomFor(2)) {
            return HEAP_FULL;
        }
        int thunk = heap.take(BUSY, NONE, NONE);
        forced++;
        pile.add(UPDATE, thunk, NONE);
        enter(term.part(node, 0), heap.take(LINK, thunk, environment));
        return GOES_ON;
    }

    private int stepLet() {
        int bound = term.part(node, 0);
        if (!hasRoomFor(cellsFor(bound) + 1)) {
            return HEAP_FULL;
        }
        int thunk = thunkFor(bound);
        enter(term.part(node, 1), heap.take(LINK, thunk, environment));
        return GOES_ON;
    }

    private int stepPair() {
        int first = term.part(node, 0);
        int second = term.part(node, 1);
        if (!hasRoomFor(cellsFor(first) + cellsFor(second))) {
            return HEAP_FULL;
        }
        int firstThunk = thunkFor(first);
        return backWith(DONE_PAIR, firstThunk, thunkFor(second));
    }

    private int stepBack() {
        int first = pile.topFirst();
        switch (pile.topSort()) {
            case UPDATE:
                pile.drop();
                heap.become(first, valueSort, valueFirst, valueSecond);
                return GOES_ON;
            case ARGUMENT:
                return stepArgument(first);
            case LEFT:
                return stepLeft(first, pile.topSecond());
            case RIGHT:
                return stepRight(first, pile.topSecond());
            case TEST:
                return stepTest(first, pile.topSecond());
            case PART:
                return stepPart(first);
            default:
                return OVER;
        }
    }

    private int stepArgument(int thunk) {
        if (valueSort != DONE_FUNCTION) {
            return WRONG;
        }
        if (!hasRoomFor(1)) {
            return HEAP_FULL;
        }
        pile.drop();
        enterFunction(thunk);
        return GOES_ON;
    }

    private void enterFunction(int thunk) {
        enter(term.part(valueFirst, 0), heap.take(LINK, thunk, valueSecond));
    }

    private int stepLeft(int reckoning, int around) {
        if (valueSort != DONE_NUMBER) {
            return WRONG;
        }
        pile.drop();
        pile.add(RIGHT, reckoning, valueFirst);
        enter(term.part(reckoning, 1), around);
        return GOES_ON;
    }

    private int stepRight(int reckoning, int left) {
        if (valueSort != DONE_NUMBER) {
            return WRONG;
        }
        pile.drop();
        return backWith(DONE_NUMBER, reckon(term.sort(reckoning), left, valueFirst), NONE);
    }

    private static int reckon(int sort, int left, int right) {
        switch (sort) {
            case PLUS:
                return left + right;
            case MINUS:
                return left - right;
            case TIMES:
                return left * right;
            default:
                return left < right ? 1 : 0;
        }
    }

    private int stepTest(int test, int around) {
        if (valueSort != DONE_NUMBER) {
            return WRONG;
        }
        pile.drop();
        enter(term.part(test, valueFirst == 0 ? 1 : 2), around);
        return GOES_ON;
    }

    private int stepPart(int which) {
        if (valueSort != DONE_PAIR) {
            return WRONG;
        }
        int thunk = which == 0 ? valueFirst : valueSecond;
        // Looked at before the frame goes: a step that can't be done changes nothing.
        if (heap.state(thunk) == BUSY) {
            return HOLE;
        }
        pile.drop();
        return ask(thunk);
    }

    private int ask(int thunk) {
        int state = heap.state(thunk);
        if (state == BUSY) {
            return HOLE;
        }
        int first = heap.first(thunk);
        int second = heap.second(thunk);
        if (state != WAITS) {
            return backWith(state, first, second);
        }
        if (pile.isFull()) {
            return PILE_FULL;
        }
        heap.become(thunk, BUSY, NONE, NONE);
        forced++;
        pile.add(UPDATE, thunk, NONE);
        enter(first, second);
        return GOES_ON;
    }

    private int cellsFor(int part) {
        return term.sort(part) == VARIABLE ? 0 : 1;
    }

    private int thunkFor(int part) {
        if (term.sort(part) == VARIABLE) {
            return heap.boundTo(environment, term.x(part));
        }
        return heap.take(WAITS, part, environment);
    }

    private boolean hasRoomFor(int cells) {
        if (heap.free() < cells) {
            markRoots();
            heap.spreadMarks();
            heap.freeUnreached();
        }
        return heap.free() >= cells;
    }

    private void markRoots() {
        heap.beginMarks();
        if (back) {
            heap.reachFrom(valueSort, valueFirst, valueSecond);
        } else {
            heap.reach(environment);
        }
        pile.reachAll(heap);
    }

    /** Nodes in the order in which they came, and where the parts of each begin. */
    private static final class Term {
        private final int[] sorts;
        private final int[] xs;
        private final int[] parts;
        private final int[] partsCome;
        private final int[] binders;
        private final int[] open;
        private int size;

        Term() {
            sorts = new int[MOST_NODES];
            xs = new int[MOST_NODES];
            parts = new int[MOST_NODES * MOST_PARTS];
            partsCome = new int[MOST_NODES];
            binders = new int[MOST_NODES];
            open = new int[MOST_NODES];
        }

        int size() {
            return size;
        }

        int sort(int node) {
            return sorts[node];
        }

        int x(int node) {
            return xs[node];
        }

        int part(int node, int which) {
            return parts[node * MOST_PARTS + which];
        }

        void clear() {
            size = 0;
        }

        boolean add(int sort, int x) {
            if (size == MOST_NODES) {
                return false;
            }
            sorts[size] = sort;
            xs[size] = x;
            size++;
            return true;
        }

        /** Finds the parts of every node: 0, or 1 + the number of the first node that can't be there. */
        int settle() {
            int opened = 0;
            for (int i = 0; i < size; i++) {
                if (i > 0 && opened == 0) {
                    return 1 + i;
                }
                binders[i] = 0;
                // A node is closed as its last part begins: what comes behind that part is for those around.
                if (opened > 0 && givePart(open[opened - 1], i)) {
                    opened--;
                }
                if (sorts[i] == VARIABLE && xs[i] >= binders[i]) {
                    return 1 + i;
                }
                partsCome[i] = 0;
                if (PARTS[sorts[i]] > 0) {
                    open[opened] = i;
                    opened++;
                }
            }
            return size == 0 || opened > 0 ? 1 + size : 0;
        }

        /** Whether the part is the last one. */
        private boolean givePart(int node, int part) {
            int which = partsCome[node];
            parts[node * MOST_PARTS + which] = part;
            partsCome[node] = which + 1;
            binders[part] = binders[node] + (bindsIn(sorts[node], which) ? 1 : 0);
            return which + 1 == PARTS[sorts[node]];
        }

        private static boolean bindsIn(int sort, int which) {
            return sort == LAMBDA || sort == FIX || sort == LET && which == 1;
        }
    }

    /**
     * Cells, each with a state and two fields: a link has its thunk and the link around; a thunk that waits
     * has its node and environment; one that is done has its number, its lambda and environment, or its two
     * thunks.
     */
    private static final class Heap {
        private final int[] states;
        private final int[] firsts;
        private final int[] seconds;
        private final int[] freeCells;
        private final int[] marks;
        private final int[] reached;
        private int free;
        private int round;
        private int reachedCount;

        Heap() {
            states = new int[MOST_CELLS];
            firsts = new int[MOST_CELLS];
            seconds = new int[MOST_CELLS];
            freeCells = new int[MOST_CELLS];
            marks = new int[MOST_CELLS];
            reached = new int[MOST_CELLS];
        }

        void empty() {
            beginMarks();
            freeUnreached();
        }

        int free() {
            return free;
        }

        /** No cell reads as a busy one, from which nothing can be taken. */
        int state(int cell) {
            return cell == NONE ? BUSY : states[cell];
        }

        int first(int cell) {
            return cell == NONE ? NONE : firsts[cell];
        }

        int second(int cell) {
            return cell == NONE ? NONE : seconds[cell];
        }

        /** A cell out of those that are free; the caller has seen that there is room. */
        int take(int state, int first, int second) {
            if (free == 0) {
                return NONE;
            }
            free--;
            int cell = freeCells[free];
            become(cell, state, first, second);
            return cell;
        }

        void become(int cell, int state, int first, int second) {
            if (cell == NONE) {
                return;
            }
            states[cell] = state;
            firsts[cell] = first;
            seconds[cell] = second;
        }

        int boundTo(int environment, int x) {
            int link = environment;
            for (int i = 0; i < x && link != NONE; i++) {
                link = seconds[link];
            }
            return first(link);
        }

        /** A new round makes all older marks void, so that none needs to be wiped. */
        void beginMarks() {
            round++;
            reachedCount = 0;
        }

        void reach(int cell) {
            if (cell == NONE || marks[cell] == round) {
                return;
            }
            marks[cell] = round;
            reached[reachedCount] = cell;
            reachedCount++;
        }

        void reachFrom(int state, int first, int second) {
            if (state == LINK || state == DONE_PAIR) {
                reach(first);
                reach(second);
            } else if (state == WAITS || state == DONE_FUNCTION) {
                reach(second);
            }
        }

        /** How many cells are reached; the row grows as it is read, by each cell once. */
        int spreadMarks() {
            for (int i = 0; i < reachedCount && i < MOST_CELLS; i++) {
                int cell = reached[i];
                reachFrom(states[cell], firsts[cell], seconds[cell]);
            }
            return reachedCount;
        }

        void freeUnreached() {
            free = 0;
            for (int cell = 0; cell < MOST_CELLS; cell++) {
                if (marks[cell] != round) {
                    freeCells[free] = cell;
                    free++;
                }
            }
        }
    }

    /**
     * Frames, each with a sort and two fields: UPDATE and ARGUMENT have a thunk; LEFT and TEST their node and
     * its environment; RIGHT its node and the left number; PART which of the pair's thunks is wanted.
     */
    private static final class Pile {
        private final int[] sorts;
        private final int[] firsts;
        private final int[] seconds;
        private int size;
        private int most;

        Pile() {
            sorts = new int[MOST_FRAMES];
            firsts = new int[MOST_FRAMES];
            seconds = new int[MOST_FRAMES];
        }

        void empty() {
            size = 0;
            most = 0;
        }

        int size() {
            return size;
        }

        int most() {
            return most;
        }

        boolean isFull() {
            return size == MOST_FRAMES;
        }

        void add(int sort, int first, int second) {
            if (isFull()) {
                return;
            }
            sorts[size] = sort;
            firsts[size] = first;
            seconds[size] = second;
            size++;
            most = Math.max(most, size);
        }

        void drop() {
            if (size > 0) {
                size--;
            }
        }

        int topSort() {
            return size == 0 ? NONE : sorts[size - 1];
        }

        int topFirst() {
            return size == 0 ? NONE : firsts[size - 1];
        }

        int topSecond() {
            return size == 0 ? NONE : seconds[size - 1];
        }

        void reachAll(Heap heap) {
            for (int i = 0; i < size; i++) {
                if (sorts[i] == UPDATE || sorts[i] == ARGUMENT) {
                    heap.reach(firsts[i]);
                } else if (sorts[i] == LEFT || sorts[i] == TEST) {
                    heap.reach(seconds[i]);
                }
            }
        }
    }
}

import java.util.ArrayDeque;
import java.util.ArrayList;
import java.util.Collections;
import java.util.Deque;
import java.util.IdentityHashMap;
import java.util.List;
import java.util.Set;

/**
 * The document once more, as plainly as it can be told: objects instead of cells, and what is reached is looked
 * for anew at every step that wants cells. It is what ModelTest holds LazyMachine against.
 */
final class PlainModel {
    private static final int[] PARTS = {0, 1, 2, 0, 2, 2, 2, 2, 3, 1, 2, 2, 1, 1};

    private static final class Node {
        int number;
        int sort;
        int x;
        final List<Node> parts = new ArrayList<>();
    }

    /** A cell is a Link or a Thunk. */
    private static final class Link {
        final Thunk thunk;
        final Link around;

        Link(Thunk thunk, Link around) {
            this.thunk = thunk;
            this.around = around;
        }
    }

    private static final class Thunk {
        boolean busy;
        Value done;
        Node node;
        Link environment;
    }

    private static final class Value {
        int sort;
        int number;
        Node lambda;
        Link environment;
        Thunk first;
        Thunk second;
    }

    private static final class Frame {
        final String name;
        Thunk thunk;
        Node node;
        Link environment;
        int number;

        Frame(String name) {
            this.name = name;
        }
    }

    private static final class Stop extends Exception {
        private static final long serialVersionUID = 1;
        final int status;

        Stop(int status) {
            this.status = status;
        }
    }

    private final List<int[]> waiting = new ArrayList<>();
    private Node root;
    private int nodes;
    private int status;
    private int steps;
    private int forced;
    private int most;
    private Node at;
    private Link environment;
    private Value value;
    private final Deque<Frame> pile = new ArrayDeque<>();

    int put(int sort, int x) {
        boolean good = sort == 0 ? 0 <= x && x <= 40 : sort == 3 || sort > 0 && sort < 14 && x == 0;
        if (!good) {
            throw new IllegalArgumentException();
        }
        if (waiting.size() == 200) {
            return -1;
        }
        waiting.add(new int[] {sort, x});
        return waiting.size();
    }

    private int read;
    private int fault;

    int load() {
        read = 0;
        fault = 0;
        Node loaded = parse(0);
        if (fault == 0 && read < waiting.size()) {
            fault = 1 + read;
        }
        root = fault == 0 ? loaded : null;
        nodes = fault == 0 ? waiting.size() : 0;
        waiting.clear();
        begin();
        return fault;
    }

    private Node parse(int binders) {
        if (fault != 0) {
            return null;
        }
        if (read == waiting.size()) {
            fault = 1 + read;
            return null;
        }
        Node node = new Node();
        node.number = read;
        node.sort = waiting.get(read)[0];
        node.x = waiting.get(read)[1];
        if (node.sort == 0 && node.x >= binders) {
            fault = 1 + read;
            return null;
        }
        read++;
        for (int i = 0; i < PARTS[node.sort]; i++) {
            boolean binds = node.sort == 1 || node.sort == 9 || node.sort == 10 && i == 1;
            node.parts.add(parse(binds ? binders + 1 : binders));
        }
        return node;
    }

    private void begin() {
        status = root == null ? 0 : 1;
        steps = 0;
        forced = 0;
        most = 0;
        at = root;
        environment = null;
        value = null;
        pile.clear();
    }

    int restart() {
        if (root == null) {
            throw new IllegalStateException();
        }
        begin();
        return 0;
    }

    int run(int n) {
        if (root == null) {
            throw new IllegalStateException();
        }
        if (n < 0 || n > 5000) {
            throw new IllegalArgumentException();
        }
        for (int i = 0; i < n && status == 1; i++) {
            try {
                if (at != null) {
                    stepAt();
                } else {
                    stepBack();
                }
                steps++;
            } catch (Stop stop) {
                status = stop.status;
            }
        }
        return status;
    }

    int result(int what) {
        if (status != 2) {
            throw new IllegalStateException();
        }
        switch (what) {
            case 0:
                return value.sort;
            case 1:
                return value.sort == 0 ? value.number : -1;
            case 2:
                return value.sort == 1 ? value.lambda.number : -1;
            default:
                return -1;
        }
    }

    int into(int k) {
        if (status != 2 || value.sort != 2) {
            throw new IllegalStateException();
        }
        if (k < 0 || k > 1) {
            throw new IllegalArgumentException();
        }
        try {
            status = 1;
            ask(k == 0 ? value.first : value.second);
        } catch (Stop stop) {
            status = stop.status;
        }
        return status;
    }

    int apply(int v) {
        if (status != 2 || value.sort != 1) {
            throw new IllegalStateException();
        }
        if (reached().size() + 2 > 256) {
            status = 6;
        } else {
            Thunk thunk = new Thunk();
            thunk.done = number(v);
            go(value.lambda.parts.get(0), new Link(thunk, value.environment));
            status = 1;
        }
        return status;
    }

    int count(int what) {
        int[] counts = {
            waiting.size(), nodes, status, steps, forced, pile.size(), reached().size(), at == null ? -1 : at.number, most
        };
        return what >= 0 && what < counts.length ? counts[what] : -1;
    }

    private static Value number(int number) {
        Value made = new Value();
        made.number = number;
        return made;
    }

    private void go(Node node, Link around) {
        at = node;
        environment = around;
        value = null;
    }

    private void comeBack(Value with) {
        at = null;
        environment = null;
        value = with;
    }

    private void wantFrame() throws Stop {
        if (pile.size() >= 200) {
            throw new Stop(5);
        }
    }

    private void wantCells(int cells) throws Stop {
        if (cells > 0 && reached().size() + cells > 256) {
            throw new Stop(6);
        }
    }

    private void push(Frame frame) {
        pile.push(frame);
        most = Math.max(most, pile.size());
    }

    private Thunk bound(int x) {
        Link link = environment;
        for (int i = 0; i < x; i++) {
            link = link.around;
        }
        return link.thunk;
    }

    private static int wants(Node node) {
        return node.sort == 0 ? 0 : 1;
    }

    private Thunk thunkFor(Node node) {
        if (node.sort == 0) {
            return bound(node.x);
        }
        Thunk thunk = new Thunk();
        thunk.node = node;
        thunk.environment = environment;
        return thunk;
    }

    private void ask(Thunk thunk) throws Stop {
        if (thunk.busy) {
            throw new Stop(4);
        }
        if (thunk.done != null) {
            comeBack(thunk.done);
            return;
        }
        wantFrame();
        Frame update = new Frame("UPDATE");
        update.thunk = thunk;
        push(update);
        forced++;
        thunk.busy = true;
        go(thunk.node, thunk.environment);
        thunk.node = null;
        thunk.environment = null;
    }

    private void stepAt() throws Stop {
        Node here = at;
        switch (here.sort) {
            case 0 -> ask(bound(here.x));
            case 1 -> {
                Value function = new Value();
                function.sort = 1;
                function.lambda = here;
                function.environment = environment;
                comeBack(function);
            }
            case 2 -> {
                wantFrame();
                wantCells(wants(here.parts.get(1)));
                Frame argument = new Frame("ARGUMENT");
                argument.thunk = thunkFor(here.parts.get(1));
                push(argument);
                at = here.parts.get(0);
            }
            case 3 -> comeBack(number(here.x));
            case 9 -> {
                wantFrame();
                wantCells(2);
                Frame update = new Frame("UPDATE");
                update.thunk = new Thunk();
                update.thunk.busy = true;
                forced++;
                push(update);
                go(here.parts.get(0), new Link(update.thunk, environment));
            }
            case 10 -> {
                wantCells(1 + wants(here.parts.get(0)));
                go(here.parts.get(1), new Link(thunkFor(here.parts.get(0)), environment));
            }
            case 11 -> {
                wantCells(wants(here.parts.get(0)) + wants(here.parts.get(1)));
                Value pair = new Value();
                pair.sort = 2;
                pair.first = thunkFor(here.parts.get(0));
                pair.second = thunkFor(here.parts.get(1));
                comeBack(pair);
            }
            default -> {
                wantFrame();
                Frame frame = new Frame(here.sort < 8 ? "LEFT" : here.sort == 8 ? "TEST" : "PART");
                frame.node = here;
                frame.environment = here.sort <= 8 ? environment : null;
                push(frame);
                at = here.parts.get(0);
            }
        }
    }

    private void want(int sort) throws Stop {
        if (value.sort != sort) {
            throw new Stop(3);
        }
    }

    private void stepBack() throws Stop {
        Frame frame = pile.peek();
        if (frame == null) {
            status = 2;
            return;
        }
        switch (frame.name) {
            case "UPDATE" -> {
                pile.pop();
                frame.thunk.busy = false;
                frame.thunk.done = value;
            }
            case "ARGUMENT" -> {
                want(1);
                wantCells(1);
                pile.pop();
                go(value.lambda.parts.get(0), new Link(frame.thunk, value.environment));
            }
            case "LEFT" -> {
                want(0);
                pile.pop();
                Frame right = new Frame("RIGHT");
                right.node = frame.node;
                right.number = value.number;
                push(right);
                go(frame.node.parts.get(1), frame.environment);
            }
            case "RIGHT" -> {
                want(0);
                pile.pop();
                long one = frame.number;
                long other = value.number;
                long[] reckoned = {one + other, one - other, one * other, one < other ? 1 : 0};
                comeBack(number((int) reckoned[frame.node.sort - 4]));
            }
            case "TEST" -> {
                want(0);
                pile.pop();
                go(frame.node.parts.get(value.number == 0 ? 1 : 2), frame.environment);
            }
            default -> {
                want(2);
                Thunk part = frame.node.sort == 12 ? value.first : value.second;
                pile.pop();
                try {
                    ask(part);
                } catch (Stop stop) {
                    pile.push(frame);
                    throw stop;
                }
            }
        }
    }

    private Set<Object> reached() {
        Set<Object> seen = Collections.newSetFromMap(new IdentityHashMap<>());
        Deque<Object> next = new ArrayDeque<>();
        offer(next, environment);
        offerValue(next, value);
        for (Frame frame : pile) {
            offer(next, frame.thunk);
            offer(next, frame.environment);
        }
        while (!next.isEmpty()) {
            Object cell = next.pop();
            if (!seen.add(cell)) {
                continue;
            }
            if (cell instanceof Link link) {
                offer(next, link.thunk);
                offer(next, link.around);
            } else if (cell instanceof Thunk thunk) {
                offer(next, thunk.environment);
                offerValue(next, thunk.done);
            }
        }
        return seen;
    }

    private static void offerValue(Deque<Object> next, Value value) {
        if (value != null) {
            offer(next, value.environment);
            offer(next, value.first);
            offer(next, value.second);
        }
    }

    private static void offer(Deque<Object> next, Object cell) {
        if (cell != null) {
            next.push(cell);
        }
    }
}

/** "Terms" and load: the edges of what a term is, and of what its numbers and variables are. */
public final class TermEdgeTest {
    private static final String[] SORTS = {
        "v0", "lam", "app", "1", "plus", "minus", "times", "less", "zero", "fix", "let", "pair", "first", "second"
    };
    private static final int[] PARTS = {0, 1, 2, 0, 2, 2, 2, 2, 3, 1, 2, 2, 1, 1};
    private static final int LAMBDA = 1;
    private static final int FIX = 9;
    private static final int LET = 10;
    private static final int LEAST = Integer.MIN_VALUE;
    private static final int MOST = Integer.MAX_VALUE;

    public static void main(String[] args) {
        parts();
        scopes();
        depths();
        outermost();
        mostNodes();
        goesRound();
        lessOrNot();
        zeroOrNot();
        Check.end();
    }

    /** What load answers of the term; behind a fault there is no term, and behind none there is. */
    private static void loads(String term, int want) {
        LazyMachine machine = Check.ran("1", 2);
        Check.put(machine, term);
        int nodes = machine.count(0);
        Check.due("load() of " + term, want, machine.load());
        boolean good = want == 0;
        Check.counts("load() of " + term, machine, 0, good ? nodes : 0, good ? 1 : 0, 0, 0, 0, 0, good ? 0 : -1, 0);
        Check.due("run(0) of " + term, good ? 1 : Check.STATE, () -> machine.run(0));
    }

    private static void parts() {
        Check.sentence("one more than the term has; how many there are, if more must come");
        for (int sort = 1; sort < SORTS.length; sort++) {
            for (int given = 0; given <= PARTS[sort] + 1; given++) {
                int nodes = 1 + given;
                int due = given < PARTS[sort] ? 1 + nodes : given == PARTS[sort] ? 0 : nodes;
                loads(SORTS[sort] + " " + Check.repeated("1", given), due);
                // The same as the first of two: the second is missing then, or there, or followed by one more.
                loads("pair " + SORTS[sort] + " " + Check.repeated("1", given + 1), due == 0 ? 0 : due + 2);
            }
        }
        loads("lam v0", 0);
        loads("lam v0 v0", 3);
    }

    private static void scopes() {
        Check.sentence("LAMBDA of one, in which it binds; FIX of one, in which it binds; LET of two, in the second of which");
        for (int sort = 1; sort < SORTS.length; sort++) {
            for (int part = 0; part < PARTS[sort]; part++) {
                boolean binds = sort == LAMBDA || sort == FIX || sort == LET && part == 1;
                String ahead = SORTS[sort] + " " + Check.repeated("1", part);
                String behind = " " + Check.repeated("1", PARTS[sort] - part - 1);
                loads(ahead + "v0" + behind, binds ? 0 : part + 2);
                loads(ahead + "v1" + behind, part + 2);
                loads("lam " + ahead + "v1" + behind, binds ? 0 : part + 3);
                loads("lam " + ahead + "v2" + behind, part + 3);
            }
        }
        // What is bound within is not bound behind it.
        loads("pair lam v0 v0", 4);
        loads("pair fix v0 v0", 4);
        loads("pair let 1 v0 v0", 5);
        loads("lam pair lam v1 v0", 0);
        loads("lam pair lam v1 v1", 5);
    }

    private static void depths() {
        Check.sentence("a variable that no binder binds");
        String[] binders = {"lam", "fix", "let 1"};
        for (String binder : binders) {
            int width = binder.split(" ").length;
            for (int x = 0; x <= 40; x++) {
                loads(Check.repeated(binder, x + 1) + "v" + x, 0);
                loads(Check.repeated(binder, x) + "v" + x, 1 + width * x);
            }
        }
    }

    private static void outermost() {
        Check.sentence("the thunk of the x-th link from there (0 the first)");
        StringBuilder lets = new StringBuilder();
        for (int i = 0; i <= 40; i++) {
            lets.append("let ").append(1000 + i).append(' ');
        }
        int[] xs = {0, 1, 39, 40};
        for (int x : xs) {
            Check.number(lets + "v" + x, 1040 - x);
            Check.number(lets + "app lam v0 v" + x, 1040 - x);
            Check.number(lets + "let v" + x + " v0", 1040 - x);
            Check.number(lets + "first pair v" + x + " 1", 1040 - x);
            Check.number(lets + "second pair 1 v" + x, 1040 - x);
        }
    }

    private static void mostNodes() {
        Check.sentence("At most 200");
        loads(Check.repeated("first", 199) + "1", 0);
        loads(Check.repeated("first", 200), 201);
        loads(Check.repeated("lam", 199) + "v40", 0);
        loads(Check.repeated("plus", 99) + Check.repeated("1", 99) + "first 1", 0);
        loads(Check.repeated("plus", 100) + Check.repeated("1", 100), 201);
        loads("first " + Check.repeated("1", 199), 3);
        // The 200th node has its part in what runs.
        LazyMachine machine = Check.ran(Check.repeated("let 1", 99) + "lam v0", 2);
        Check.due("count(1)", 200, machine.count(1));
        Check.due("result(2)", 198, machine.result(2));
        Check.due("apply(5)", 1, machine.apply(5));
        Check.due("count(7)", 199, machine.count(7));
        Check.due("run(2)", 2, machine.run(2));
        Check.due("result(1)", 5, machine.result(1));
    }

    private static void goesRound() {
        Check.sentence("a number of 32 bits (reckoning goes round)");
        reckons("plus", MOST - 1, 1, MOST);
        reckons("plus", MOST, 1, LEAST);
        reckons("plus", LEAST + 1, -1, LEAST);
        reckons("plus", LEAST, -1, MOST);
        reckons("plus", LEAST, LEAST, 0);
        reckons("plus", MOST, MOST, -2);
        reckons("minus", LEAST + 1, 1, LEAST);
        reckons("minus", LEAST, 1, MOST);
        reckons("minus", MOST - 1, -1, MOST);
        reckons("minus", MOST, -1, LEAST);
        reckons("minus", 0, MOST, -MOST);
        reckons("minus", 0, LEAST, LEAST);
        reckons("minus", -1, LEAST, MOST);
        reckons("times", 46340, 46340, 2147395600);
        reckons("times", 46341, 46341, -2147479015);
        reckons("times", 65536, 32767, 2147418112);
        reckons("times", 65536, 32768, LEAST);
        reckons("times", 65536, 65536, 0);
        reckons("times", LEAST, 1, LEAST);
        reckons("times", LEAST, -1, LEAST);
        reckons("times", MOST, -1, -MOST);
        reckons("times", MOST, 2, -2);
        reckons("times", MOST, MOST, 1);
    }

    private static void lessOrNot() {
        Check.sentence("LESS: 1 or 0");
        reckons("less", 4, 5, 1);
        reckons("less", 5, 5, 0);
        reckons("less", 6, 5, 0);
        reckons("less", -1, 0, 1);
        reckons("less", 0, -1, 0);
        // No difference is reckoned that could go round.
        reckons("less", LEAST, MOST, 1);
        reckons("less", MOST, LEAST, 0);
        reckons("less", LEAST, 1, 1);
        reckons("less", LEAST, LEAST, 0);
        reckons("less", MOST, MOST, 0);
        reckons("less", MOST - 1, MOST, 1);
        reckons("less", LEAST, LEAST + 1, 1);
    }

    private static void zeroOrNot() {
        Check.sentence("TEST: at the second if the number is 0, else the third");
        int[] numbers = {1, -1, 2, MOST, LEAST, 256, 65536};
        Check.number("zero 0 7 8", 7);
        for (int number : numbers) {
            Check.number("zero " + number + " 7 8", 8);
        }
        // 0 by going round.
        Check.number("zero plus " + LEAST + " " + LEAST + " 7 8", 7);
        Check.number("zero minus 1 1 7 8", 7);
    }

    private static void reckons(String reckoning, int one, int other, int want) {
        Check.number(reckoning + " " + one + " " + other, want);
    }
}

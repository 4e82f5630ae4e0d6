/** Promise 3: load. */
public final class LoadTest {
    public static void main(String[] args) {
        goodTerms();
        badTerms();
        whatGoes();
        deepTerms();
        Check.end();
    }

    private static void goodTerms() {
        String[] terms = {
            "1", "lam v0", "fix v0", "let 1 v0", "lam lam pair v0 v1", "zero 1 2 3", "app lam v0 lam v0",
            "let let 1 v0 v0", "lam let v0 pair v0 v1", "plus minus 1 2 times 3 less 4 5", "first second pair 1 2",
            "zero zero 1 2 3 zero 4 5 6 zero 7 8 9", "fix lam zero v0 v1 let v1 v2"
        };
        for (String term : terms) {
            LazyMachine machine = Check.loaded(term);
            Check.counts("loaded " + term, machine, 0, term.split(" ").length, 1, 0, 0, 0, 0, 0, 0);
        }
    }

    private static void bad(String term, int want) {
        LazyMachine machine = Check.ran("plus 1 2", 2);
        Check.put(machine, term);
        Check.due("load() of " + term, want, machine.load());
        Check.counts("behind a bad load of " + term, machine, 0, 0, 0, 0, 0, 0, 0, -1, 0);
        Check.due("run(1)", Check.STATE, () -> machine.run(1));
        Check.due("restart()", Check.STATE, Check.restart(machine));
        Check.due("result(0)", Check.STATE, () -> machine.result(0));
    }

    private static void badTerms() {
        // Variables that no binder binds.
        bad("v0", 1);
        bad("lam v1", 2);
        bad("let v0 1", 2);
        bad("let 1 v1", 3);
        bad("let lam v0 v1", 4);
        bad("app lam v0 v0", 4);
        bad("pair fix v0 v0", 4);
        bad("zero lam v0 1 v0", 5);
        bad("plus v0 v0", 2);
        bad("lam lam lam v3", 4);
        // More than the term has.
        bad("1 2", 2);
        bad("1 v0", 2);
        bad("lam v0 1", 3);
        bad("plus 1 2 lam", 4);
        bad("zero 1 2 3 4 5", 5);
        // Less than the term has.
        bad("lam", 2);
        bad("app 1", 3);
        bad("zero 1 2", 4);
        bad("let 1", 3);
        bad("pair pair 1 2", 5);
        bad("first", 2);
        // The first fault is told.
        bad("app v0", 2);
        bad("app app v0 1 v0 1 1", 3);
        bad("lam v1 v1", 2);
    }

    private static void whatGoes() {
        LazyMachine machine = new LazyMachine();
        Check.due("load() of nothing", 1, machine.load());
        Check.put(machine, "pair 1 2");
        Check.due("count(0)", 3, machine.count(0));
        Check.due("load()", 0, machine.load());
        Check.due("load() again, of nothing", 1, machine.load());
        Check.due("count(2)", 0, machine.count(2));

        // A new term begins at its beginning, whatever the old one left.
        Check.put(machine, "fix plus 1 app lam v0 v0");
        Check.due("load()", 0, machine.load());
        Check.due("run(5000)", 4, machine.run(5000));
        Check.put(machine, "plus 20 22");
        Check.counts("nodes wait, the old term stays", machine, 3, 7, 4);
        Check.due("load()", 0, machine.load());
        Check.counts("a new term", machine, 0, 3, 1, 0, 0, 0, 0, 0, 0);
        Check.due("run(5000)", 2, machine.run(5000));
        Check.due("result(1)", 42, machine.result(1));
    }

    private static void deepTerms() {
        Check.loaded(Check.repeated("lam", 199) + "v40");
        Check.loaded(Check.repeated("fix", 41) + "v40");
        bad(Check.repeated("let 1", 40) + "v40", 81);
        Check.loaded(Check.repeated("pair 1", 99) + "2");
        Check.loaded(Check.repeated("plus", 99) + Check.repeated("1", 100));
        bad(Check.repeated("zero", 200), 201);
        bad(Check.repeated("plus", 100) + Check.repeated("1", 100), 201);
        bad(Check.repeated("plus", 98) + Check.repeated("1", 102), 198);
    }
}

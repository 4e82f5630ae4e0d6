/** Promise 1: a new object has no nodes and no term. */
public final class NewObjectTest {
    public static void main(String[] args) {
        LazyMachine machine = new LazyMachine();
        Check.counts("new", machine, 0, 0, 0, 0, 0, 0, 0, -1, 0, -1);
        Check.due("restart()", Check.STATE, Check.restart(machine));
        Check.due("run(0)", Check.STATE, () -> machine.run(0));
        Check.due("result(0)", Check.STATE, () -> machine.result(0));
        Check.due("into(0)", Check.STATE, () -> machine.into(0));
        Check.due("apply(0)", Check.STATE, () -> machine.apply(0));
        Check.due("load()", 1, machine.load());
        Check.counts("loaded without nodes", machine, 0, 0, 0, 0, 0, 0, 0, -1, 0, -1);

        // Two objects have nothing in common.
        LazyMachine other = new LazyMachine();
        other.put(3, 8);
        Check.due("count(0) of the other", 1, other.count(0));
        Check.due("count(0)", 0, machine.count(0));
        Check.end();
    }
}

/** The calls of the example in README.md, with the answers that its comments tell. */
public final class ReadmeTest {
    private static final Check CHECK = new Check();

    public static void main(String[] args) {
        MachineTree x = new MachineTree(2);
        oneMachine(x);
        tree(x);
        CHECK.end();
    }

    private static void oneMachine(MachineTree x) {
        CHECK.answers("set(0, 0, 7)", MachineTree.NONE, () -> x.set(0, 0, 7));
        CHECK.answers("set(0, 1, 5)", MachineTree.NONE, () -> x.set(0, 1, 5));
        CHECK.answers("set(1, 0, 1)", MachineTree.NONE, () -> x.set(1, 0, 1));
        CHECK.answers("run(300)", MachineTree.HALTS, () -> x.run(300));
        CHECK.answers("figure(1)", 6, () -> x.figure(1));
        CHECK.answers("figure(6)", 4, () -> x.figure(6));
        CHECK.answers("cell(-1)", 1, () -> x.cell(-1));
        CHECK.answers("share()", 1f, () -> x.share());
    }

    private static void tree(MachineTree x) {
        int all = 0;
        for (int more = x.grow(40); more > 0; more = x.grow(40)) {
            all += more;
        }
        CHECK.same("all that grow(40) took", 41, all);
        CHECK.answers("taken(DRIFTS)", 23, () -> x.taken(MachineTree.DRIFTS));
        CHECK.answers("taken(4)", 6, () -> x.taken(4));
        CHECK.answers("champion(0, 0)", 7, () -> x.champion(0, 0));
        CHECK.answers("champion(1, 1)", MachineTree.NONE, () -> x.champion(1, 1));
        CHECK.answers("mean()", 4.266667f, () -> x.mean());
    }
}

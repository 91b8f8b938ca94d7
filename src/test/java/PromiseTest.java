/** Each promise by calls whose answers were worked out by hand from the document. */
public final class PromiseTest {
    private static final int MIN = Integer.MIN_VALUE;
    private static final int MAX = Integer.MAX_VALUE;
    private static final Check CHECK = new Check();

    public static void main(String[] args) {
        newObject();
        numberOfStates();
        set();
        setForgets();
        runLimits();
        halts();
        haltsAtOnce();
        cycles();
        cyclesBackToTheLatest();
        driftsRight();
        driftsLeft();
        driftsWithCellsBehind();
        refusedCallsChangeNothing();
        farCells();
        grow();
        firstMachines();
        wholeTreeOfTwo();
        treeAndMachineApart();
        objectsApart();
        CHECK.end();
    }

    private static void newObject() {
        MachineTree x = new MachineTree(3);
        figuresNotYet("new", x);
        for (int what = 0; what <= 6; what++) {
            CHECK.same("new: taken(" + what + ")", 0, x.taken(what));
        }
        CHECK.notYet("new: mean()", () -> x.mean());
        for (int state = 0; state < 3; state++) {
            for (int symbol = 0; symbol < 2; symbol++) {
                CHECK.same("new: champion", MachineTree.NONE, x.champion(state, symbol));
                CHECK.same("new: set", MachineTree.NONE, x.set(state, symbol, MachineTree.NONE));
            }
        }
    }

    private static void numberOfStates() {
        int[][] rows = {{MIN, 2}, {-1, 2}, {0, 2}, {1, 2}, {2, 2}, {3, 3}, {4, 4}, {5, 4}, {MAX, 4}};
        for (int[] row : rows) {
            MachineTree x = new MachineTree(row[0]);
            int n = row[1];
            String name = "states " + row[0] + ": ";
            CHECK.answers(name + "set, last state", -1, () -> x.set(n - 1, 1, 4 * n - 1));
            CHECK.refuses(name + "set, state too high", () -> x.set(n, 0, 0));
            CHECK.refuses(name + "set, code too high", () -> x.set(0, 0, 4 * n));
            CHECK.answers(name + "champion, last state", -1, () -> x.champion(n - 1, 1));
            CHECK.refuses(name + "champion, state too high", () -> x.champion(n, 0));
        }
    }

    private static void set() {
        MachineTree x = new MachineTree(2);
        CHECK.same("set first", -1, x.set(1, 0, 5));
        CHECK.same("set again", 5, x.set(1, 0, 0));
        CHECK.same("set to none", 0, x.set(1, 0, -1));
        CHECK.same("set after none", -1, x.set(1, 0, 7));
        CHECK.same("set another place", -1, x.set(0, 1, 3));
        CHECK.same("set the first place", 7, x.set(1, 0, 7));
        for (int wrong : new int[] {-1, 2, 3, MIN, MAX}) {
            CHECK.refuses("set state " + wrong, () -> x.set(wrong, 0, 0));
            CHECK.refuses("set symbol " + wrong, () -> x.set(0, wrong, 0));
            CHECK.refuses("champion state " + wrong, () -> x.champion(wrong, 0));
            CHECK.refuses("champion symbol " + wrong, () -> x.champion(0, wrong));
        }
        for (int wrong : new int[] {-2, 8, MIN, MAX}) {
            CHECK.refuses("set code " + wrong, () -> x.set(0, 0, wrong));
        }
        CHECK.same("set behind refused ones", 3, x.set(0, 1, 3));
    }

    private static void setForgets() {
        MachineTree x = beaver();
        x.run(300);
        CHECK.same("before the change", 6, x.figure(1));
        x.set(1, 1, 2);
        figuresNotYet("changed", x);
        x.run(300);
        x.set(1, 1, 2);
        figuresNotYet("set to the same code", x);
    }

    private static void runLimits() {
        MachineTree x = beaver();
        for (int wrong : new int[] {0, -1, 301, MIN, MAX}) {
            CHECK.refuses("run(" + wrong + ")", () -> x.run(wrong));
        }
        figuresNotYet("refused run", x);
        CHECK.answers("run(1)", MachineTree.OPEN, () -> x.run(1));
        figures("run(1)", x, 0, 1, 0, 0, 1, 1, 1, 0, 1);
        CHECK.same("share of run(1)", 0.5f, x.share());
        CHECK.answers("run(300)", MachineTree.HALTS, () -> x.run(300));
    }

    private static void halts() {
        MachineTree x = beaver();
        CHECK.same("run(5)", MachineTree.OPEN, x.run(5));
        figures("run(5)", x, 0, 5, 0, 0, 1, -1, 4, -2, 1);
        CHECK.same("run(6)", MachineTree.HALTS, x.run(6));
        figures("run(6)", x, 1, 6, 0, 0, 1, -1, 4, -2, 1);
        for (int at = -4; at <= 4; at++) {
            CHECK.same("cell(" + at + ")", at >= -2 && at <= 1 ? 1 : 0, x.cell(at));
        }
        CHECK.same("share", 1f, x.share());
        for (int wrong : new int[] {-1, 9, MIN, MAX}) {
            CHECK.refuses("figure(" + wrong + ")", () -> x.figure(wrong));
        }
        CHECK.same("a shorter run", MachineTree.OPEN, x.run(2));
        figures("a shorter run", x, 0, 2, 0, 0, 0, 0, 2, 0, 1);
        CHECK.same("a cell that only the longer run wrote", 0, x.cell(-2));
    }

    private static void haltsAtOnce() {
        MachineTree x = new MachineTree(4);
        CHECK.same("no action", MachineTree.HALTS, x.run(1));
        figures("no action", x, 1, 1, 0, 0, 0, 0, 0, 0, 0);
        CHECK.same("no action: share", 0f, x.share());
        CHECK.same("no action: cell", 0, x.cell(0));
    }

    private static void cycles() {
        MachineTree x = new MachineTree(2);
        x.set(0, 0, 6);
        x.set(1, 0, 0);
        CHECK.same("to and fro", MachineTree.CYCLES, x.run(300));
        figures("to and fro", x, 2, 2, 2, 0, 0, 0, 0, 0, 1);
        CHECK.same("to and fro, too short", MachineTree.OPEN, x.run(1));
    }

    private static void cyclesBackToTheLatest() {
        MachineTree x = new MachineTree(2);
        x.set(0, 0, 7);
        x.set(0, 1, 7);
        x.set(1, 0, 0);
        CHECK.same("later cycle", MachineTree.CYCLES, x.run(300));
        figures("later cycle", x, 2, 3, 2, 0, 1, 1, 1, 0, 1);
        CHECK.same("later cycle, the last step counts", MachineTree.CYCLES, x.run(3));
        CHECK.same("later cycle, one step less", MachineTree.OPEN, x.run(2));
    }

    private static void driftsRight() {
        MachineTree x = new MachineTree(2);
        x.set(0, 0, 3);
        CHECK.same("right", MachineTree.DRIFTS, x.run(300));
        figures("right", x, 3, 2, 1, 1, 0, 2, 2, 0, 2);
        CHECK.same("right: share", 2f / 3f, x.share());
    }

    private static void driftsLeft() {
        MachineTree x = new MachineTree(2);
        x.set(0, 0, 4);
        x.set(1, 0, 1);
        CHECK.same("left", MachineTree.DRIFTS, x.run(300));
        figures("left", x, 3, 3, 2, -2, 1, -3, 1, -3, 0);
        CHECK.same("left: written", 1, x.cell(-1));
        CHECK.same("left: not written", 0, x.cell(-2));
        CHECK.same("left: share", 0.25f, x.share());
    }

    private static void driftsWithCellsBehind() {
        MachineTree x = new MachineTree(2);
        x.set(0, 0, 7);
        x.set(0, 1, 3);
        x.set(1, 0, 1);
        CHECK.same("cells behind", MachineTree.DRIFTS, x.run(300));
        figures("cells behind", x, 3, 5, 4, 2, 1, 3, 3, 0, 3);
        CHECK.same("cells behind: share", 0.75f, x.share());
        CHECK.same("cells behind, one step less", MachineTree.OPEN, x.run(4));
    }

    private static void refusedCallsChangeNothing() {
        MachineTree x = beaver();
        x.run(6);
        x.grow(1);
        CHECK.refuses("run(0)", () -> x.run(0));
        CHECK.refuses("set(2, 0, 0)", () -> x.set(2, 0, 0));
        CHECK.refuses("set(0, 2, 0)", () -> x.set(0, 2, 0));
        CHECK.refuses("set(0, 0, 8)", () -> x.set(0, 0, 8));
        CHECK.refuses("grow(41)", () -> x.grow(41));
        figures("behind refused calls", x, 1, 6, 0, 0, 1, -1, 4, -2, 1);
        CHECK.same("taken behind refused calls", 1, x.taken(1));
    }

    private static void farCells() {
        MachineTree x = beaver();
        x.run(300);
        for (int at : new int[] {MIN, MIN + 1, MIN + 300, -302, -301, -300, -299, 299, 300, 301, 302, MAX - 300, MAX}) {
            CHECK.answers("cell(" + at + ")", 0, () -> x.cell(at));
        }
    }

    private static void grow() {
        MachineTree x = new MachineTree(3);
        for (int wrong : new int[] {0, -1, 41, MIN, MAX}) {
            CHECK.refuses("grow(" + wrong + ")", () -> x.grow(wrong));
        }
        CHECK.notYet("mean behind refused grow", () -> x.mean());
        CHECK.answers("grow(1)", 1, () -> x.grow(1));
        CHECK.answers("grow(40)", 40, () -> x.grow(40));
        CHECK.same("all taken", 41, x.taken(0) + x.taken(1) + x.taken(2) + x.taken(3));
        for (int wrong : new int[] {-1, 7, MIN, MAX}) {
            CHECK.refuses("taken(" + wrong + ")", () -> x.taken(wrong));
        }
    }

    private static void firstMachines() {
        MachineTree x = new MachineTree(4);
        x.grow(1);
        CHECK.same("the first machine halts", 1, x.taken(1));
        CHECK.same("its steps", 2, x.taken(4));
        CHECK.same("its ones", 1, x.taken(5));
        CHECK.same("most ones", 1, x.taken(6));
        CHECK.same("its mean", 2f, x.mean());
        champion("the first machine", x, 7, -1, -1, -1, -1, -1, -1, -1);
        x.grow(1);
        CHECK.same("the second halts", 2, x.taken(1));
        CHECK.same("the second's steps", 3, x.taken(4));
        CHECK.same("mean of two", 2.5f, x.mean());
        champion("the second machine", x, 7, -1, 0, -1, -1, -1, -1, -1);
    }

    private static void wholeTreeOfTwo() {
        MachineTree x = new MachineTree(2);
        CHECK.same("first 40", 40, x.grow(40));
        CHECK.same("the rest", 1, x.grow(40));
        CHECK.same("no more", 0, x.grow(40));
        CHECK.same("still no more", 0, x.grow(1));
        CHECK.refuses("grow(0) behind the end", () -> x.grow(0));
        int[] due = {0, 15, 3, 23, 6, 3, 4};
        for (int what = 0; what < due.length; what++) {
            CHECK.same("whole tree: taken(" + what + ")", due[what], x.taken(what));
        }
        CHECK.same("whole tree: mean", 64f / 15f, x.mean());
    }

    private static void treeAndMachineApart() {
        MachineTree x = beaver();
        x.run(300);
        x.grow(40);
        figures("behind grow", x, 1, 6, 0, 0, 1, -1, 4, -2, 1);
        CHECK.same("cell behind grow", 1, x.cell(-2));
        CHECK.same("share behind grow", 1f, x.share());
        int steps = x.taken(4);
        float mean = x.mean();
        CHECK.same("code behind grow", 5, x.set(0, 1, 2));
        x.run(300);
        CHECK.same("taken behind run", steps, x.taken(4));
        CHECK.same("mean behind run", mean, x.mean());
        CHECK.same("grow goes on behind run", 1, x.grow(40));
    }

    private static void objectsApart() {
        MachineTree one = beaver();
        MachineTree other = new MachineTree(2);
        one.run(300);
        one.grow(40);
        other.run(300);
        CHECK.same("the one's steps", 6, one.figure(1));
        CHECK.same("the other's steps", 1, other.figure(1));
        CHECK.same("the other's tree", 0, other.taken(1));
        CHECK.same("the other's grow", 40, other.grow(40));
    }

    /** Halts with step 6 and four ones, in cells -2 to 1. */
    private static MachineTree beaver() {
        MachineTree x = new MachineTree(2);
        x.set(0, 0, 7);
        x.set(0, 1, 5);
        x.set(1, 0, 1);
        return x;
    }

    private static void figures(String name, MachineTree x, int... due) {
        for (int what = 0; what < due.length; what++) {
            int asked = what;
            CHECK.answers(name + ": figure(" + what + ")", due[what], () -> x.figure(asked));
        }
    }

    private static void figuresNotYet(String name, MachineTree x) {
        for (int what = 0; what <= 8; what++) {
            int asked = what;
            CHECK.notYet(name + ": figure(" + what + ")", () -> x.figure(asked));
        }
        CHECK.refuses(name + ": figure(-1)", () -> x.figure(-1));
        CHECK.refuses(name + ": figure(9)", () -> x.figure(9));
        CHECK.notYet(name + ": cell(0)", () -> x.cell(0));
        CHECK.notYet(name + ": cell, far", () -> x.cell(MAX));
        CHECK.notYet(name + ": share()", () -> x.share());
    }

    private static void champion(String name, MachineTree x, int... due) {
        for (int place = 0; place < due.length; place++) {
            CHECK.same(name + ": champion(" + place / 2 + ", " + place % 2 + ")", due[place],
                x.champion(place / 2, place % 2));
        }
    }
}

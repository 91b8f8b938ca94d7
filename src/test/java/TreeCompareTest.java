import java.util.Random;

/** Promises 7 to 10 against the literal reference, behind every call of grow. */
public final class TreeCompareTest {
    private static final Check CHECK = new Check();

    public static void main(String[] args) {
        follow(2, 100, new Random(12));
        follow(2, 100, null);
        follow(3, 5000, new Random(13));
        follow(4, 20480, null);
        CHECK.end();
    }

    /** Goes through the tree by random amounts, or by 40 each time if there is no random source. */
    private static void follow(int n, int most, Random random) {
        MachineTree tree = new MachineTree(n);
        Reference.Tree due = Reference.tree(n, most);
        Tally tally = new Tally(due, n);
        int calls = 0;
        while (tally.taken < most && calls++ < 512) {
            int many = random == null ? 40 : 1 + random.nextInt(40);
            int next = tally.take(many);
            String name = "n " + n + ", behind " + tally.taken + ": ";
            CHECK.same(name + "grow(" + many + ")", next, tree.grow(many));
            tally.compare(tree, name);
            if (next == 0) {
                break;
            }
        }
    }

    /** What is due for the machines taken so far. */
    private static final class Tally {
        private final Reference.Tree all;
        private final int n;
        private final int[] counts = new int[7];
        private int taken = 0;
        private int best = -1;
        private long steps = 0;

        Tally(Reference.Tree all, int n) {
            this.all = all;
            this.n = n;
        }

        int take(int many) {
            int before = taken;
            for (int i = 0; i < many && taken < all.runs.size(); i++) {
                Reference.Run run = all.runs.get(taken);
                counts[run.outcome]++;
                if (run.outcome == 1) {
                    countHalted(run);
                }
                taken++;
            }
            return taken - before;
        }

        private void countHalted(Reference.Run run) {
            steps += run.steps;
            counts[6] = Math.max(counts[6], run.last().ones().size());
            if (best < 0 || run.steps > counts[4]) {
                best = taken;
                counts[4] = run.steps;
                counts[5] = run.last().ones().size();
            }
        }

        void compare(MachineTree tree, String name) {
            for (int what = 0; what < counts.length; what++) {
                CHECK.same(name + "taken(" + what + ")", counts[what], tree.taken(what));
            }
            for (int place = 0; place < 2 * n; place++) {
                int due = best < 0 ? -1 : all.machines.get(best)[place];
                CHECK.same(name + "champion(" + place / 2 + ", " + place % 2 + ")", due,
                    tree.champion(place / 2, place % 2));
            }
            CHECK.same(name + "mean()", (float) ((double) steps / counts[1]), tree.mean());
        }
    }
}

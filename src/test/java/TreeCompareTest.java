import java.util.Random;

/** Promises 7 to 10 against the literal reference. */
public final class TreeCompareTest {
    // an object is used for no more calls than the document promises answers for
    private static final int MOST_CALLS = 512;
    private static final Check CHECK = new Check();

    public static void main(String[] args) {
        follow(2, 1, amounts(new Random(12)));
        follow(2, 1, amounts(null));
        follow(3, 1, amounts(new Random(13)));
        follow(4, 31, amounts(null));
        follow(4, 31, amounts(new Random(14)));
        CHECK.end();
    }

    /** Random amounts for grow, or 40 each time if there is no random source. */
    private static int[] amounts(Random random) {
        int[] amounts = new int[MOST_CALLS];
        for (int i = 0; i < amounts.length; i++) {
            amounts[i] = random == null ? 40 : 1 + random.nextInt(40);
        }
        return amounts;
    }

    /** Looks at the counts behind so many calls of grow, behind twice as many and so on, each on a new object. */
    private static void follow(int n, int every, int[] amounts) {
        Reference.Tree all = Reference.tree(n, 40 * MOST_CALLS);
        int lookingCalls = 7 + 2 * n + 1;
        boolean more = true;
        for (int calls = every; more && calls + lookingCalls <= MOST_CALLS; calls += every) {
            MachineTree tree = new MachineTree(n);
            Tally tally = new Tally(all, n);
            int last = 0;
            for (int i = 0; i < calls; i++) {
                last = tally.take(amounts[i]);
                CHECK.same("n " + n + ", call " + i + ": grow(" + amounts[i] + ")", last, tree.grow(amounts[i]));
            }
            tally.compare(tree, "n " + n + ", behind " + tally.taken + ": ");
            more = last > 0;
        }
    }

    /** What is due for the machines taken so far. */
    private static final class Tally {
        private final Reference.Tree all;
        private final int n;
        private final int[] counts = new int[7];
        private int taken = 0;
        private int best = -1;
        private long steps = 0;

        Tally(Reference.Tree all, int n) {
            this.all = all;
            this.n = n;
        }

        int take(int many) {
            int before = taken;
            for (int i = 0; i < many && taken < all.runs.size(); i++) {
                Reference.Run run = all.runs.get(taken);
                counts[run.outcome]++;
                if (run.outcome == 1) {
                    countHalted(run);
                }
                taken++;
            }
            return taken - before;
        }

        private void countHalted(Reference.Run run) {
            steps += run.steps;
            counts[6] = Math.max(counts[6], run.last().ones().size());
            if (best < 0 || run.steps > counts[4]) {
                best = taken;
                counts[4] = run.steps;
                counts[5] = run.last().ones().size();
            }
        }

        void compare(MachineTree tree, String name) {
            for (int what = 0; what < counts.length; what++) {
                CHECK.same(name + "taken(" + what + ")", counts[what], tree.taken(what));
            }
            for (int place = 0; place < 2 * n; place++) {
                int due = best < 0 ? -1 : all.machines.get(best)[place];
                CHECK.same(name + "champion(" + place / 2 + ", " + place % 2 + ")", due,
                    tree.champion(place / 2, place % 2));
            }
            CHECK.same(name + "mean()", (float) ((double) steps / counts[1]), tree.mean());
        }
    }
}

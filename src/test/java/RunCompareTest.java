import java.util.Random;

/** Promises 2 to 6 against the literal reference: all machines of two states, and many of more. */
public final class RunCompareTest {
    private static final int[] LIMITS = {1, 2, 3, 7, 8, 50, 119, 120, 121, 299, 300};
    // an object is used for no more calls than the document promises answers for
    private static final int MOST_CALLS = 512;
    private static final Check CHECK = new Check();
    private static MachineTree kept = null;
    private static int keptStates = 0;
    private static int callsLeft = 0;

    public static void main(String[] args) {
        allOfTwoStates();
        someOf(3, 4000, new Random(3));
        someOf(4, 4000, new Random(4));
        longLived();
        CHECK.end();
    }

    private static void allOfTwoStates() {
        for (int number = 0; number < 9 * 9 * 9 * 9; number++) {
            int[][] codes = {{number % 9 - 1, number / 9 % 9 - 1}, {number / 81 % 9 - 1, number / 729 - 1}};
            compare(codes, LIMITS[number % LIMITS.length]);
        }
    }

    private static void someOf(int n, int many, Random random) {
        for (int i = 0; i < many; i++) {
            int[][] codes = new int[n][2];
            for (int[] row : codes) {
                row[0] = random.nextInt(12) == 0 ? -1 : random.nextInt(4 * n);
                row[1] = random.nextInt(12) == 0 ? -1 : random.nextInt(4 * n);
            }
            compare(codes, i % 2 == 0 ? 300 : LIMITS[random.nextInt(LIMITS.length)]);
        }
    }

    /** Those of the tree that are open after its 120 steps are the ones that go far. */
    private static void longLived() {
        for (int n = 3; n <= 4; n++) {
            Reference.Tree all = Reference.tree(n, 5000);
            for (int i = 0; i < all.runs.size(); i++) {
                if (all.runs.get(i).outcome == 0) {
                    int[] flat = all.machines.get(i);
                    int[][] codes = new int[n][2];
                    for (int place = 0; place < flat.length; place++) {
                        codes[place / 2][place % 2] = flat[place];
                    }
                    compare(codes, 300);
                    compare(mirrored(codes), 300);
                }
            }
        }
    }

    private static int[][] mirrored(int[][] codes) {
        int[][] other = new int[codes.length][2];
        for (int state = 0; state < codes.length; state++) {
            for (int symbol = 0; symbol < 2; symbol++) {
                int code = codes[state][symbol];
                other[state][symbol] = code < 0 ? code : code ^ 2;
            }
        }
        return other;
    }

    /** The object of the run before, so that what it left behind is seen too, as long as its calls last. */
    private static MachineTree objectFor(int states, int calls) {
        if (states != keptStates || calls > callsLeft) {
            kept = new MachineTree(states);
            keptStates = states;
            callsLeft = MOST_CALLS;
        }
        callsLeft -= calls;
        return kept;
    }

    private static void compare(int[][] codes, int limit) {
        Reference.Run due = Reference.run(codes, limit);
        int first = due.leftmost() - 2;
        int last = due.rightmost() + 2;
        MachineTree tree = objectFor(codes.length, 2 * codes.length + 11 + last - first + 1);
        StringBuilder name = new StringBuilder();
        for (int state = 0; state < codes.length; state++) {
            for (int symbol = 0; symbol < 2; symbol++) {
                tree.set(state, symbol, codes[state][symbol]);
                name.append(codes[state][symbol]).append(' ');
            }
        }
        CHECK.same(name + "run(" + limit + ")", due.outcome, tree.run(limit));
        for (int what = 0; what <= 8; what++) {
            CHECK.same(name + "run(" + limit + ") figure(" + what + ")", due.figure(what), tree.figure(what));
        }
        for (int at = first; at <= last; at++) {
            CHECK.same(name + "cell(" + at + ")", due.last().ones().contains(at) ? 1 : 0, tree.cell(at));
        }
        float share = (float) due.last().ones().size() / (due.rightmost() - due.leftmost() + 1);
        CHECK.same(name + "share()", share, tree.share());
    }
}

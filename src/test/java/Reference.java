import java.util.ArrayList;
import java.util.Arrays;
import java.util.List;
import java.util.TreeSet;

/** The document's terms, written down as slowly and as literally as they stand, to compare with. */
final class Reference {
    /** Where a machine is behind some number of steps. */
    record Place(int state, int head, TreeSet<Integer> ones) { }

    /** A run and its figures. */
    static final class Run {
        final List<Place> places = new ArrayList<>();
        int outcome = 0;
        int steps = 0;
        int period = 0;
        int drift = 0;

        Place last() {
            return places.get(places.size() - 1);
        }

        int symbol() {
            return last().ones().contains(last().head()) ? 1 : 0;
        }

        int leftmost() {
            return places.stream().mapToInt(Place::head).min().getAsInt();
        }

        int rightmost() {
            return places.stream().mapToInt(Place::head).max().getAsInt();
        }

        int figure(int what) {
            int[] all = {outcome, steps, period, drift, last().state(), last().head(), last().ones().size(),
                leftmost(), rightmost()};
            return all[what];
        }
    }

    /** What is told of the machines taken. */
    static final class Tree {
        final List<int[]> machines = new ArrayList<>();
        final List<Run> runs = new ArrayList<>();
    }

    static Run run(int[][] codes, int limit) {
        Run run = new Run();
        run.places.add(new Place(0, 0, new TreeSet<>()));
        while (run.outcome == 0 && run.steps < limit) {
            int code = codes[run.last().state()][run.symbol()];
            run.steps++;
            if (code == -1) {
                run.outcome = 1;
                return run;
            }
            TreeSet<Integer> ones = new TreeSet<>(run.last().ones());
            if (code % 2 == 1) {
                ones.add(run.last().head());
            } else {
                ones.remove(run.last().head());
            }
            int move = code / 2 % 2 == 1 ? 1 : -1;
            run.places.add(new Place(code / 4, run.last().head() + move, ones));
            if (!cycles(run)) {
                drifts(run);
            }
        }
        return run;
    }

    private static boolean cycles(Run run) {
        for (int then = run.steps - 1; then >= 0; then--) {
            if (run.places.get(then).equals(run.last())) {
                run.outcome = 2;
                run.period = run.steps - then;
                return true;
            }
        }
        return false;
    }

    private static void drifts(Run run) {
        for (int side = -1; side <= 1; side += 2) {
            if (!record(run, run.steps, side)) {
                continue;
            }
            for (int q = run.steps - 1; q >= 1; q--) {
                if (record(run, q, side) && run.places.get(q).state() == run.last().state() && alike(run, q, side)) {
                    run.outcome = 3;
                    run.period = run.steps - q;
                    run.drift = run.last().head() - run.places.get(q).head();
                    return;
                }
            }
        }
    }

    private static boolean record(Run run, int step, int side) {
        for (int before = 0; before < step; before++) {
            if (side * run.places.get(before).head() >= side * run.places.get(step).head()) {
                return false;
            }
        }
        return true;
    }

    private static boolean alike(Run run, int q, int side) {
        Place old = run.places.get(q);
        int d = 0;
        for (int t = q; t <= run.steps; t++) {
            d = Math.max(d, side * (old.head() - run.places.get(t).head()));
        }
        for (int i = 0; i <= d; i++) {
            boolean then = old.ones().contains(old.head() - side * i);
            boolean now = run.last().ones().contains(run.last().head() - side * i);
            if (then != now) {
                return false;
            }
        }
        return true;
    }

    static Tree tree(int n, int most) {
        Tree tree = new Tree();
        int[][] codes = new int[n][2];
        for (int[] row : codes) {
            Arrays.fill(row, -1);
        }
        codes[0][0] = 7;
        takeAll(tree, codes, most);
        return tree;
    }

    private static void takeAll(Tree tree, int[][] codes, int most) {
        if (tree.runs.size() >= most) {
            return;
        }
        int n = codes.length;
        Run run = run(codes, 120);
        tree.runs.add(run);
        tree.machines.add(Arrays.stream(codes).flatMapToInt(Arrays::stream).toArray());
        int[] there = Arrays.stream(codes).flatMapToInt(Arrays::stream).filter(code -> code >= 0).toArray();
        if (run.outcome != 1 || there.length >= 2 * n - 1) {
            return;
        }
        int next = Math.min(n - 1, Arrays.stream(there).map(code -> code / 4).max().getAsInt() + 1);
        int state = run.last().state();
        int symbol = run.symbol();
        for (int code = 0; code / 4 <= next; code++) {
            codes[state][symbol] = code;
            takeAll(tree, codes, most);
        }
        codes[state][symbol] = -1;
    }
}

import java.util.Arrays;

/** Small machines on a tape: one to be made and run, and the tree of all of them up to likeness. */
public final class MachineTree {
    public static final int NONE = -1;
    public static final int OPEN = 0, HALTS = 1, CYCLES = 2, DRIFTS = 3;

    private static final int FEWEST_STATES = 2;
    private static final int MOST_STATES = 4;
    private static final int RUN_STEPS = 300;
    private static final int TREE_STEPS = 120;
    private static final int MOST_TAKEN = 40;

    private final Machine machine;
    private final Walk walk;
    private final Tree tree;
    private boolean walked;

    public MachineTree(int states) {
        int kept = Math.max(FEWEST_STATES, Math.min(MOST_STATES, states));
        machine = new Machine(kept);
        walk = new Walk(RUN_STEPS);
        tree = new Tree(kept);
        walked = false;
    }

    public int set(int state, int symbol, int code) throws IllegalArgumentException {
        if (!machine.hasPlace(state, symbol)) {
            throw new IllegalArgumentException("no such state or symbol");
        }
        if (!machine.allows(code)) {
            throw new IllegalArgumentException("no such code");
        }
        int before = machine.codeAt(state, symbol);
        machine.put(state, symbol, code);
        walked = false;
        return before;
    }

    public int run(int limit) throws IllegalArgumentException {
        if (limit < 1 || limit > RUN_STEPS) {
            throw new IllegalArgumentException("the limit is not 1 to 300");
        }
        walk.follow(machine, limit);
        walked = true;
        return walk.outcome;
    }

    public int figure(int what) throws IllegalArgumentException, IllegalStateException {
        if (what < 0 || what > 8) {
            throw new IllegalArgumentException("no such figure");
        }
        needWalk();
        switch (what) {
            case 0: return walk.outcome;
            case 1: return walk.steps;
            case 2: return walk.period;
            case 3: return walk.drift;
            case 4: return walk.state;
            case 5: return walk.head;
            case 6: return walk.ones;
            case 7: return walk.left;
            default: return walk.right;
        }
    }

    public int cell(int at) throws IllegalStateException {
        needWalk();
        return walk.symbolNow(at);
    }

    public float share() throws IllegalStateException {
        needWalk();
        int cells = walk.right - walk.left + 1;
        return cells > 0 ? (float) walk.ones / (float) cells : 0f;
    }

    public int grow(int many) throws IllegalArgumentException {
        if (many < 1 || many > MOST_TAKEN) {
            throw new IllegalArgumentException("not 1 to 40 machines");
        }
        int count = 0;
        while (count < many && tree.takeNext()) {
            count++;
        }
        return count;
    }

    public int taken(int what) throws IllegalArgumentException {
        switch (what) {
            case OPEN: return tree.open;
            case HALTS: return tree.halted;
            case CYCLES: return tree.cycling;
            case DRIFTS: return tree.drifting;
            case 4: return tree.bestSteps;
            case 5: return tree.bestOnes;
            case 6: return tree.mostOnes;
            default: throw new IllegalArgumentException("no such count");
        }
    }

    public int champion(int state, int symbol) throws IllegalArgumentException {
        if (!tree.best.hasPlace(state, symbol)) {
            throw new IllegalArgumentException("no such state or symbol");
        }
        return tree.best.codeAt(state, symbol);
    }

    public float mean() throws IllegalStateException {
        if (tree.halted <= 0) {
            throw new IllegalStateException("none halted");
        }
        return (float) tree.haltedSteps / (float) tree.halted;
    }

    private void needWalk() {
        if (!walked) {
            throw new IllegalStateException("not run since the machine was changed");
        }
    }

    /** The actions of one machine, by state and symbol. */
    private static final class Machine {
        private final int states;
        private final int[] codes;

        Machine(int states) {
            this.states = states;
            codes = new int[2 * MOST_STATES];
            Arrays.fill(codes, NONE);
        }

        boolean hasPlace(int state, int symbol) {
            return state >= 0 && state < states && (symbol == 0 || symbol == 1);
        }

        boolean allows(int code) {
            return code >= NONE && code < 4 * states;
        }

        int codeAt(int state, int symbol) {
            int place = 2 * state + symbol;
            return place >= 0 && place < codes.length ? codes[place] : NONE;
        }

        void put(int state, int symbol, int code) {
            int place = 2 * state + symbol;
            if (place >= 0 && place < codes.length) {
                codes[place] = code;
            }
        }

        int greatestNext() {
            int greatest = 0;
            for (int code : codes) {
                // NONE shifts to -1, so it never wins
                greatest = Math.max(greatest, code >> 2);
            }
            return greatest;
        }

        void copyFrom(Machine other) {
            System.arraycopy(other.codes, 0, codes, 0, Math.min(codes.length, other.codes.length));
        }
    }

    /** One machine's way over the tape, with all that is needed to look back at each of its steps. */
    private static final class Walk {
        private final int reach;
        private final int words;
        // a bit for each cell from -reach to reach
        private final long[] tape;
        // the tape behind 0, 1, 2 .. steps, one copy after the other
        private final long[] tapes;
        private final int[] heads;
        private final int[] states;
        // 1 for a right record, -1 for a left one, 0 for other steps
        private final int[] sides;
        private int outcome;
        private int steps;
        private int period;
        private int drift;
        private int state;
        private int head;
        private int ones;
        private int left;
        private int right;

        Walk(int mostSteps) {
            reach = Math.max(1, Math.min(RUN_STEPS, mostSteps));
            words = (2 * reach >> 6) + 1;
            tape = new long[words];
            tapes = new long[words * (reach + 1)];
            heads = new int[reach + 1];
            states = new int[reach + 1];
            sides = new int[reach + 1];
        }

        void follow(Machine machine, int limit) {
            begin();
            int most = Math.min(limit, reach);
            while (steps < most && outcome == OPEN) {
                steps++;
                int code = machine.codeAt(state, symbolNow(head));
                if (code < 0) {
                    outcome = HALTS;
                } else {
                    act(code);
                    look();
                }
            }
        }

        int symbolNow(int cell) {
            return symbolIn(tape, 0, cell);
        }

        private void begin() {
            Arrays.fill(tape, 0L);
            outcome = OPEN;
            steps = 0;
            period = 0;
            drift = 0;
            state = 0;
            head = 0;
            ones = 0;
            left = 0;
            right = 0;
            note(0);
        }

        private void act(int code) {
            write(code & 1);
            head += (code & 2) != 0 ? 1 : -1;
            state = code >> 2;
            int side = head > right ? 1 : head < left ? -1 : 0;
            left = Math.min(left, head);
            right = Math.max(right, head);
            note(side);
        }

        private void write(int symbol) {
            int place = head + reach;
            int word = place >> 6;
            int before = symbolNow(head);
            if (before != symbol && word >= 0 && word < tape.length) {
                tape[word] ^= 1L << (place & 63);
                ones += symbol - before;
            }
        }

        private void note(int side) {
            if (steps < 0 || steps > reach) {
                return;
            }
            heads[steps] = head;
            states[steps] = state;
            sides[steps] = side;
            System.arraycopy(tape, 0, tapes, steps * words, words);
        }

        private void look() {
            int cycle = latestSame();
            if (cycle >= 0) {
                outcome = CYCLES;
                period = steps - cycle;
                return;
            }
            int start = latestDrift();
            if (start >= 0 && start < heads.length) {
                outcome = DRIFTS;
                period = steps - start;
                drift = head - heads[start];
            }
        }

        private int latestSame() {
            // each step moves the head by one cell: only an even number of steps brings it back
            for (int then = Math.min(steps, reach) - 2; then >= 0; then -= 2) {
                if (heads[then] == head && states[then] == state && sameTape(then)) {
                    return then;
                }
            }
            return NONE;
        }

        private boolean sameTape(int then) {
            int from = then * words;
            if (from < 0 || from + words > tapes.length) {
                return false;
            }
            for (int i = 0; i < words; i++) {
                if (tapes[from + i] != tape[i]) {
                    return false;
                }
            }
            return true;
        }

        private int latestDrift() {
            int now = Math.min(steps, reach);
            int side = now >= 0 ? sides[now] : 0;
            if (side == 0) {
                return NONE;
            }
            // cells times side, so that a left record is looked at as a right one in a mirror
            int furthest = side * head;
            for (int then = now - 1; then > 0; then--) {
                int place = side * heads[then];
                furthest = Math.min(furthest, place);
                if (sides[then] == side && states[then] == state && sameBehind(then, side, place - furthest)) {
                    return then;
                }
            }
            return NONE;
        }

        private boolean sameBehind(int then, int side, int depth) {
            if (then < 0 || then >= heads.length) {
                return false;
            }
            for (int i = 0; i <= depth; i++) {
                int before = symbolIn(tapes, then * words, heads[then] - side * i);
                if (before != symbolIn(tape, 0, head - side * i)) {
                    return false;
                }
            }
            return true;
        }

        private int symbolIn(long[] rows, int from, int cell) {
            if (cell < -reach || cell > reach) {
                return 0;
            }
            int place = cell + reach;
            int word = from + (place >> 6);
            return word >= 0 && word < rows.length ? (int) (rows[word] >>> (place & 63)) & 1 : 0;
        }
    }

    /** The machines of the tree, taken one by one, and what is known of those taken. */
    private static final class Tree {
        private static final int FIRST_CODE = 1 + 2 + 4 * 1;

        private final int states;
        // the machine taken last, and its way
        private final Machine current;
        private final Walk way;
        // for each action behind the first one, in the order in which they came: where it is, and its last code
        private final int[] placeStates;
        private final int[] placeSymbols;
        private final int[] lastCodes;
        private int depth;
        private boolean begun;
        private boolean ended;
        private final Machine best;
        private int bestSteps;
        private int bestOnes;
        private int mostOnes;
        private int open;
        private int halted;
        private int cycling;
        private int drifting;
        private int haltedSteps;

        Tree(int states) {
            this.states = states;
            current = new Machine(states);
            best = new Machine(states);
            way = new Walk(TREE_STEPS);
            placeStates = new int[2 * MOST_STATES];
            placeSymbols = new int[2 * MOST_STATES];
            lastCodes = new int[2 * MOST_STATES];
        }

        boolean takeNext() {
            if (!moveOn()) {
                return false;
            }
            way.follow(current, TREE_STEPS);
            switch (way.outcome) {
                case HALTS: countHalted(); break;
                case CYCLES: cycling++; break;
                case DRIFTS: drifting++; break;
                default: open++; break;
            }
            return true;
        }

        private void countHalted() {
            halted++;
            haltedSteps += way.steps;
            mostOnes = Math.max(mostOnes, way.ones);
            if (way.steps > bestSteps) {
                bestSteps = way.steps;
                bestOnes = way.ones;
                best.copyFrom(current);
            }
        }

        private boolean moveOn() {
            if (ended) {
                return false;
            }
            if (!begun) {
                begun = true;
                current.put(0, 0, FIRST_CODE);
                return true;
            }
            if (hasChildren()) {
                toFirstChild();
                return true;
            }
            ended = !toNextBranch();
            return !ended;
        }

        private boolean hasChildren() {
            return way.outcome == HALTS && depth + 1 < 2 * states - 1 && depth < lastCodes.length;
        }

        private void toFirstChild() {
            if (depth < 0 || depth >= lastCodes.length) {
                return;
            }
            int symbol = way.symbolNow(way.head);
            placeStates[depth] = way.state;
            placeSymbols[depth] = symbol;
            lastCodes[depth] = 4 * Math.min(current.greatestNext() + 1, states - 1) + 3;
            depth++;
            current.put(way.state, symbol, 0);
        }

        private boolean toNextBranch() {
            for (int last = Math.min(depth, lastCodes.length) - 1; last >= 0; last--) {
                int state = placeStates[last];
                int symbol = placeSymbols[last];
                int code = current.codeAt(state, symbol);
                if (code < lastCodes[last]) {
                    current.put(state, symbol, code + 1);
                    return true;
                }
                current.put(state, symbol, NONE);
                depth = last;
            }
            return false;
        }
    }
}

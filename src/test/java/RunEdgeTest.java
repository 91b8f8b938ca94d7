/** Each boundary that the document names for one machine and its run (promises 1 to 6), in the document's order. */
public final class RunEdgeTest {
    private static final int MIN = Integer.MIN_VALUE;
    private static final int MAX = Integer.MAX_VALUE;
    private static final int LAST_CALL = 512;
    private static final Check CHECK = new Check();

    public static void main(String[] args) {
        everyCodeIsItsThreeParts();
        theSymbolUnderTheHeadChooses();
        haltingChangesNothingElse();
        haltsGoesBeforeCycles();
        haltsWithTheLastStepAllowed();
        cyclesBackToStepZero();
        cyclesBackToALaterStep();
        noCycleInAnotherState();
        noCycleWithAnotherTape();
        theStartIsNoRecord();
        recordsLeadToTheSameState();
        recordsAreOfTheSameSide();
        nothingBehindIsLookedAtWhenTheHeadNeverWasThere();
        theLastCellBehindIsLookedAt();
        aLaterRecordThatDiffersIsPassedOver();
        decidedWithTheLastStepOfThreeHundred();
        openWhenOnlyTheNextStepWouldDecide();
        theLastPromisedCall();
        statesTooFewAndTooMany();
        setRefusesStates();
        setRefusesSymbols();
        setRefusesCodes();
        setAnswersTheCodeItHad();
        setForgetsWithoutException();
        aRefusedSetChangesNothing();
        runLimitTooSmallAndTooLarge();
        aRefusedRunChangesNothing();
        eachRunBeginsAnew();
        aRunWithoutActions();
        figureLooksAtWhatFirst();
        figureOfWhatIsNone();
        cellFarAway();
        cellsAllOverAWideTape();
        shareOfNoOnes();
        shareIsRounded();
        shareCountsCellsThatWereNeverWritten();
        CHECK.end();
    }

    // Terms: "write + 2 * (1 if it moves right, 0 left) + 4 * the next state"
    private static void everyCodeIsItsThreeParts() {
        for (int n = 2; n <= 4; n++) {
            for (int code = 0; code < 4 * n; code++) {
                MachineTree x = new MachineTree(n);
                x.set(0, 0, code);
                int head = code / 2 % 2 == 1 ? 1 : -1;
                String name = "code " + code + " of " + n + " states";
                CHECK.answers(name, 0, () -> x.run(1));
                figures(name, x, 0, 1, 0, 0, code / 4, head, code % 2, Math.min(head, 0), Math.max(head, 0));
                CHECK.answers(name + ": cell", code % 2, () -> x.cell(0));
            }
        }
    }

    // Terms: "A STEP takes the action for the state and the symbol under the head"
    private static void theSymbolUnderTheHeadChooses() {
        MachineTree x = machine(7, 2, 1, 5);
        x.run(3);
        figures("back on the 1", x, 0, 3, 0, 0, 0, 1, 1, 0, 1);
        MachineTree y = machine(7, 6, 1, 5);
        y.run(4);
        figures("the state chooses too", y, 0, 4, 0, 0, 1, 0, 1, 0, 1);
    }

    // Terms: "the next step only makes the machine HALT (nothing else changes)"
    private static void haltingChangesNothingElse() {
        MachineTree x = machine(7, -1, -1, 0);
        x.run(1);
        figures("before halting", x, 0, 1, 0, 0, 1, 1, 1, 0, 1);
        x.run(2);
        figures("halted", x, 1, 2, 0, 0, 1, 1, 1, 0, 1);
        CHECK.same("halted: written before", 1, x.cell(0));
        CHECK.same("halted: not written", 0, x.cell(1));
    }

    // Terms: "the first that holds (in this order)": a halting step leaves all as it was one step earlier
    private static void haltsGoesBeforeCycles() {
        MachineTree x = machine(4, -1, -1, -1);
        CHECK.same("halts, though all is as before", MachineTree.HALTS, x.run(300));
        figures("halts, though all is as before", x, 1, 2, 0, 0, 1, -1, 0, -1, 0);
    }

    // Terms: "at most L steps", "the steps taken (with the halting one)"
    private static void haltsWithTheLastStepAllowed() {
        MachineTree x = machine(7, 5, 1, 8, -1, 13, 15, 2);
        CHECK.same("one step too few", MachineTree.OPEN, x.run(106));
        figures("one step too few", x, 0, 106, 0, 0, 2, -10, 12, -10, 3);
        for (int limit : new int[] {107, 108, 300}) {
            CHECK.same("run(" + limit + ")", MachineTree.HALTS, x.run(limit));
            figures("run(" + limit + ")", x, 1, 107, 0, 0, 2, -10, 12, -10, 3);
        }
    }

    // Terms: "behind an earlier number of steps (0 included)"
    private static void cyclesBackToStepZero() {
        MachineTree shortest = machine(6, -1, 0, -1);
        CHECK.same("shortest cycle, one step too few", MachineTree.OPEN, shortest.run(1));
        CHECK.same("shortest cycle", MachineTree.CYCLES, shortest.run(2));
        figures("shortest cycle", shortest, 2, 2, 2, 0, 0, 0, 0, 0, 1);
        MachineTree x = machine(7, -1, 9, 11, 14, 8, 4, 2);
        CHECK.same("cycle to 0, one step too few", MachineTree.OPEN, x.run(37));
        CHECK.same("cycle to 0: period", 0, x.figure(2));
        for (int limit : new int[] {38, 39, 300}) {
            CHECK.same("cycle to 0, run(" + limit + ")", MachineTree.CYCLES, x.run(limit));
            figures("cycle to 0, run(" + limit + ")", x, 2, 38, 38, 0, 0, 0, 0, -2, 3);
        }
    }

    // Terms: "how many steps ago it was so (the latest earlier one for CYCLES)"
    private static void cyclesBackToALaterStep() {
        MachineTree x = machine(6, 8, 9, 11, 15, 1, 7, 0);
        CHECK.same("late cycle, one step too few", MachineTree.OPEN, x.run(176));
        CHECK.same("late cycle", MachineTree.CYCLES, x.run(177));
        figures("late cycle", x, 2, 177, 30, 0, 2, -1, 6, -6, 3);
    }

    // Terms: "state, head and tape are as they were"
    private static void noCycleInAnotherState() {
        MachineTree x = machine(6, -1, 8, -1, -1, -1);
        CHECK.same("another state", MachineTree.OPEN, x.run(2));
        CHECK.same("another state, on", MachineTree.HALTS, x.run(3));
        figures("another state", x, 1, 3, 0, 0, 2, 0, 0, 0, 1);
    }

    private static void noCycleWithAnotherTape() {
        MachineTree x = machine(7, -1, 0, -1);
        CHECK.same("another tape", MachineTree.OPEN, x.run(2));
        figures("another tape", x, 0, 2, 0, 0, 0, 0, 1, 0, 1);
        CHECK.same("another tape, on", MachineTree.HALTS, x.run(3));
    }

    // Terms: "A RECORD is a step": where the head is at first is none
    private static void theStartIsNoRecord() {
        for (int code : new int[] {0, 1, 2, 3}) {
            MachineTree x = machine(code, -1, -1, -1);
            int side = code < 2 ? -1 : 1;
            CHECK.same("code " + code + ", step 1", MachineTree.OPEN, x.run(1));
            CHECK.same("code " + code + ", step 2", MachineTree.DRIFTS, x.run(2));
            figures("code " + code, x, 3, 2, 1, side, 0, 2 * side, 2 * (code % 2), Math.min(0, 2 * side),
                Math.max(0, 2 * side));
        }
    }

    // Terms: "an earlier record q of the same side that led to the same state"
    private static void recordsLeadToTheSameState() {
        MachineTree right = machine(6, -1, 10, -1, 14, -1, 2, -1);
        CHECK.same("ring to the right, step 4", MachineTree.OPEN, right.run(4));
        CHECK.same("ring to the right, step 5", MachineTree.DRIFTS, right.run(5));
        figures("ring to the right", right, 3, 5, 4, 4, 1, 5, 0, 0, 5);
        MachineTree left = machine(4, -1, 8, -1, 12, -1, 0, -1);
        CHECK.same("ring to the left, step 4", MachineTree.OPEN, left.run(4));
        CHECK.same("ring to the left, step 5", MachineTree.DRIFTS, left.run(5));
        figures("ring to the left", left, 3, 5, 4, -4, 1, -5, 0, -5, 0);
    }

    // it goes to and fro between two ends of a growing row of ones, and every record of a side is of one state
    private static void recordsAreOfTheSameSide() {
        MachineTree x = machine(5, 3, 3, 5);
        for (int limit : new int[] {1, 2, 120, 299, 300}) {
            CHECK.same("to and fro, run(" + limit + ")", MachineTree.OPEN, x.run(limit));
            CHECK.same("to and fro, steps", limit, x.figure(1));
        }
        figures("to and fro", x, 0, 300, 0, 0, 0, 12, 24, -12, 12);
    }

    // Terms: "0 if it never was"
    private static void nothingBehindIsLookedAtWhenTheHeadNeverWasThere() {
        MachineTree x = machine(7, -1, 6, -1);
        CHECK.same("d is 0", MachineTree.DRIFTS, x.run(2));
        figures("d is 0", x, 3, 2, 1, 1, 1, 2, 1, 0, 2);
        MachineTree y = machine(5, -1, 4, -1);
        CHECK.same("d is 0, to the left", MachineTree.DRIFTS, y.run(2));
        figures("d is 0, to the left", y, 3, 2, 1, -1, 1, -2, 1, -2, 0);
    }

    // Terms: "back to d cells behind it": record 4 differs from record 1 only in the cell d behind
    private static void theLastCellBehindIsLookedAt() {
        MachineTree right = machine(7, 6, 1, 6);
        CHECK.same("d is 1, step 4", MachineTree.OPEN, right.run(4));
        CHECK.same("d is 1, step 7", MachineTree.DRIFTS, right.run(300));
        figures("d is 1", right, 3, 7, 3, 1, 1, 3, 1, 0, 3);
        MachineTree left = machine(5, 4, 3, 4);
        CHECK.same("d is 1 to the left, step 4", MachineTree.OPEN, left.run(4));
        CHECK.same("d is 1 to the left, step 7", MachineTree.DRIFTS, left.run(300));
        figures("d is 1 to the left", left, 3, 7, 3, -1, 1, -3, 1, -3, 0);
    }

    // Terms: "The latest such q is meant": record 7 leads to the same state but differs, record 3 does not
    private static void aLaterRecordThatDiffersIsPassedOver() {
        MachineTree left = machine(7, 1, 0, 4);
        CHECK.same("passed over, step 9", MachineTree.OPEN, left.run(9));
        CHECK.same("passed over, step 10", MachineTree.DRIFTS, left.run(10));
        figures("passed over", left, 3, 10, 7, -3, 0, -4, 1, -4, 1);
        MachineTree right = machine(5, 3, 2, 6);
        CHECK.same("passed over to the right", MachineTree.DRIFTS, right.run(300));
        figures("passed over to the right", right, 3, 10, 7, 3, 0, 4, 1, -1, 4);
    }

    // Promise 3: the limit 300 itself
    private static void decidedWithTheLastStepOfThreeHundred() {
        MachineTree left = machine(7, 10, 1, 7, 6, 13, 9, 8);
        CHECK.same("left, run(299)", MachineTree.OPEN, left.run(299));
        figures("left, run(299)", left, 0, 299, 0, 0, 2, -19, 17, -19, 5);
        CHECK.same("left, run(300)", MachineTree.DRIFTS, left.run(300));
        figures("left, run(300)", left, 3, 300, 150, -10, 3, -20, 17, -20, 5);
        MachineTree right = machine(7, 1, 8, 11, 0, 15, 11, 10);
        CHECK.same("right, run(299)", MachineTree.OPEN, right.run(299));
        CHECK.same("right, run(300)", MachineTree.DRIFTS, right.run(300));
        figures("right, run(300)", right, 3, 300, 154, 10, 2, 22, 18, -4, 22);
        MachineTree longPeriod = machine(6, 4, 11, 7, 9, 12, 3, 0);
        CHECK.same("long period, run(299)", MachineTree.OPEN, longPeriod.run(299));
        CHECK.same("long period, run(300)", MachineTree.DRIFTS, longPeriod.run(300));
        figures("long period", longPeriod, 3, 300, 271, -7, 1, -8, 5, -8, 7);
    }

    // Terms: "OPEN: L steps were taken, and none of these holds behind the last one"; step 301 would drift
    private static void openWhenOnlyTheNextStepWouldDecide() {
        MachineTree x = machine(7, 6, 8, 3, 15, 9, 4, 7);
        CHECK.same("step 301 would drift", MachineTree.OPEN, x.run(300));
        figures("step 301 would drift", x, 0, 300, 0, 0, 0, 20, 17, -5, 20);
    }

    // What it is: "at most 512 calls after it has been made"
    private static void theLastPromisedCall() {
        MachineTree x = new MachineTree(4);
        for (int call = 1; call < LAST_CALL; call += 2) {
            int code = call / 2 % 17 - 1;
            int before = call == 1 ? -1 : (call - 2) / 2 % 17 - 1;
            CHECK.same("call " + call, before, x.set(3, 1, code));
            CHECK.same("call " + (call + 1), MachineTree.HALTS, x.run(300));
        }
        MachineTree y = machine(7, 5, 1, 8, -1, 13, 15, 2);
        for (int call = 9; call < LAST_CALL; call++) {
            CHECK.same("call " + call, MachineTree.HALTS, y.run(107));
        }
        CHECK.same("call 512", 107, y.figure(1));
    }

    // Promise 1: "2 if that is less and 4 if it is more"
    private static void statesTooFewAndTooMany() {
        int[][] rows = {{MIN, 2}, {-2, 2}, {-1, 2}, {0, 2}, {1, 2}, {2, 2}, {3, 3}, {4, 4}, {5, 4}, {8, 4}, {MAX, 4}};
        for (int[] row : rows) {
            for (int state = 0; state <= 5; state++) {
                MachineTree x = new MachineTree(row[0]);
                int asked = state;
                Object due = state < row[1] ? (Object) (-1) : "throws.IllegalArgumentException";
                CHECK.answers("MachineTree(" + row[0] + "): set(" + state + ", 1, 7)", due, () -> x.set(asked, 1, 7));
            }
        }
    }

    // Promise 2: "there is no such state or symbol, or the code is not -1 .. 4 * n - 1"
    private static void setRefusesStates() {
        for (int n = 2; n <= 4; n++) {
            MachineTree x = new MachineTree(n);
            for (int state : new int[] {-1, n, n + 1, MIN, MAX, 1 << 30}) {
                CHECK.refuses("set(" + state + ", 0, 0) of " + n, () -> x.set(state, 0, 0));
                CHECK.refuses("set(" + state + ", 1, -1) of " + n, () -> x.set(state, 1, -1));
            }
        }
    }

    private static void setRefusesSymbols() {
        for (int n = 2; n <= 4; n++) {
            MachineTree x = new MachineTree(n);
            for (int symbol : new int[] {-1, 2, 3, MIN, MAX}) {
                CHECK.refuses("set(0, " + symbol + ", 0) of " + n, () -> x.set(0, symbol, 0));
                CHECK.refuses("set(1, " + symbol + ", -1) of " + n, () -> x.set(1, symbol, -1));
            }
        }
    }

    private static void setRefusesCodes() {
        for (int n = 2; n <= 4; n++) {
            for (int place = 0; place < 2 * n; place++) {
                MachineTree x = new MachineTree(n);
                int state = place / 2;
                int symbol = place % 2;
                int last = 4 * n - 1;
                for (int code : new int[] {MIN, -3, -2, last + 1, last + 2, 16, MAX}) {
                    CHECK.refuses("code " + code + " of " + n, () -> x.set(state, symbol, code));
                }
                CHECK.answers("code -1 of " + n, -1, () -> x.set(state, symbol, -1));
                CHECK.answers("code " + last + " of " + n, -1, () -> x.set(state, symbol, last));
                CHECK.answers("code 0 of " + n, last, () -> x.set(state, symbol, 0));
                CHECK.answers("code -1 behind 0 of " + n, 0, () -> x.set(state, symbol, -1));
            }
        }
    }

    // Promise 2: "the code it had, NONE for none", for each place by itself
    private static void setAnswersTheCodeItHad() {
        for (int n = 2; n <= 4; n++) {
            MachineTree x = new MachineTree(n);
            for (int place = 0; place < 2 * n; place++) {
                CHECK.same("first code of " + place, MachineTree.NONE, x.set(place / 2, place % 2, place));
            }
            for (int place = 0; place < 2 * n; place++) {
                CHECK.same("code of " + place, place, x.set(place / 2, place % 2, MachineTree.NONE));
                CHECK.same("code of " + place + " taken away", MachineTree.NONE, x.set(place / 2, place % 2, 0));
            }
        }
    }

    // Promise 2: "What was run is forgotten"
    private static void setForgetsWithoutException() {
        int[][] calls = {{1, 1, 3}, {1, 1, -1}, {0, 0, 7}, {0, 0, -1}};
        for (int[] call : calls) {
            MachineTree x = machine(7, 5, 1, -1);
            x.run(300);
            x.set(call[0], call[1], call[2]);
            notRun("set(" + call[0] + ", " + call[1] + ", " + call[2] + ")", x);
        }
    }

    private static void aRefusedSetChangesNothing() {
        MachineTree x = machine(7, 5, 1, -1);
        x.run(300);
        CHECK.refuses("state 2", () -> x.set(2, 0, 0));
        CHECK.refuses("symbol 2", () -> x.set(0, 2, 0));
        CHECK.refuses("code 8", () -> x.set(0, 0, 8));
        CHECK.refuses("code -2", () -> x.set(0, 0, -2));
        figures("behind refused sets", x, 1, 6, 0, 0, 1, -1, 4, -2, 1);
        CHECK.same("cell behind refused sets", 1, x.cell(-2));
        CHECK.same("share behind refused sets", 1f, x.share());
        CHECK.same("the code is still there", 7, x.set(0, 0, 7));
    }

    // Promise 3: "limit is not 1 .. 300"
    private static void runLimitTooSmallAndTooLarge() {
        for (int limit : new int[] {MIN, MIN + 1, -300, -1, 0, 301, 302, 65836, MAX}) {
            MachineTree x = machine(5, 3, 3, 5);
            CHECK.refuses("run(" + limit + ")", () -> x.run(limit));
            notRun("run(" + limit + ")", x);
        }
        for (int limit : new int[] {1, 2, 299, 300}) {
            MachineTree x = machine(5, 3, 3, 5);
            CHECK.answers("run(" + limit + ")", MachineTree.OPEN, () -> x.run(limit));
            CHECK.answers("run(" + limit + "): steps", limit, () -> x.figure(1));
        }
    }

    private static void aRefusedRunChangesNothing() {
        MachineTree x = machine(7, 5, 1, -1);
        x.run(2);
        CHECK.refuses("run(0)", () -> x.run(0));
        CHECK.refuses("run(301)", () -> x.run(301));
        figures("behind refused runs", x, 0, 2, 0, 0, 0, 0, 2, 0, 1);
    }

    // Terms: "at first all are 0, the head is at cell 0, the state is 0"
    private static void eachRunBeginsAnew() {
        MachineTree x = machine(7, 1, 8, 11, 0, 15, 11, 10);
        for (int round = 0; round < 3; round++) {
            x.run(300);
            figures("a long run", x, 3, 300, 154, 10, 2, 22, 18, -4, 22);
            x.run(1);
            figures("a short run behind it", x, 0, 1, 0, 0, 1, 1, 1, 0, 1);
            for (int at = -6; at <= 24; at++) {
                CHECK.same("cell(" + at + ") behind the short run", at == 0 ? 1 : 0, x.cell(at));
            }
        }
    }

    // Promise 1: "The machine has no actions"
    private static void aRunWithoutActions() {
        for (int limit : new int[] {1, 2, 300}) {
            MachineTree x = new MachineTree(3);
            CHECK.same("no actions, run(" + limit + ")", MachineTree.HALTS, x.run(limit));
            figures("no actions, run(" + limit + ")", x, 1, 1, 0, 0, 0, 0, 0, 0, 0);
        }
    }

    // Promise 4: "IllegalArgumentException (looked at first)"
    private static void figureLooksAtWhatFirst() {
        MachineTree x = new MachineTree(2);
        wrongFigures("never run", x);
        notRun("never run", x);
        x.run(1);
        x.set(0, 0, 0);
        wrongFigures("changed", x);
        notRun("changed", x);
    }

    // Promise 4: "what is none of these"
    private static void figureOfWhatIsNone() {
        MachineTree x = machine(7, 5, 1, -1);
        x.run(300);
        wrongFigures("run", x);
        figures("behind wrong figures", x, 1, 6, 0, 0, 1, -1, 4, -2, 1);
    }

    // Promise 5: every int is a cell
    private static void cellFarAway() {
        MachineTree x = machine(5, 3, 3, 5);
        int[] far = {MIN, MIN + 1, MIN + 299, MIN + 300, MIN + 301, -65536, -601, -600, -364, -301, -300, -299, -64, -63, -13,
            12, 13, 52, 63, 64, 65, 299, 300, 301, 364, 600, 601, 65536, MAX - 301, MAX - 300, MAX - 299, MAX - 1, MAX};
        for (int at : far) {
            CHECK.notYet("not run: cell(" + at + ")", () -> x.cell(at));
        }
        x.run(300);
        for (int at : far) {
            CHECK.answers("cell(" + at + ")", 0, () -> x.cell(at));
        }
    }

    private static void cellsAllOverAWideTape() {
        MachineTree x = machine(5, 3, 3, 5);
        x.run(300);
        for (int at = -100; at <= 100; at++) {
            CHECK.same("cell(" + at + ")", at >= -12 && at <= 11 ? 1 : 0, x.cell(at));
        }
    }

    // Promise 6: "the ones divided by those cells"
    private static void shareOfNoOnes() {
        MachineTree x = new MachineTree(2);
        x.run(1);
        CHECK.same("share of one empty cell", 0f, x.share());
        x.set(0, 0, 2);
        x.run(2);
        CHECK.same("share of three empty cells", 0f, x.share());
    }

    private static void shareIsRounded() {
        MachineTree x = machine(7, -1, 6, -1);
        x.run(300);
        CHECK.same("a third", 0.33333334f, x.share());
        MachineTree y = machine(7, 10, 1, 7, 6, 13, 9, 8);
        y.run(300);
        CHECK.same("17 of 26", 0.65384614f, y.share());
    }

    private static void shareCountsCellsThatWereNeverWritten() {
        MachineTree x = machine(7, -1, -1, -1);
        x.run(300);
        CHECK.same("the head's cell counts", 0.5f, x.share());
        MachineTree y = machine(7, 5, 1, 8, -1, 13, 15, 2);
        y.run(300);
        CHECK.same("12 of 14", 0.85714287f, y.share());
    }

    private static MachineTree machine(int... codes) {
        MachineTree x = new MachineTree(codes.length / 2);
        for (int place = 0; place < codes.length; place++) {
            x.set(place / 2, place % 2, codes[place]);
        }
        return x;
    }

    /** The figures 0 to 8 are these. */
    private static void figures(String name, MachineTree x, int... due) {
        for (int what = 0; what < due.length; what++) {
            int asked = what;
            CHECK.answers(name + ": figure(" + what + ")", due[what], () -> x.figure(asked));
        }
    }

    private static void wrongFigures(String name, MachineTree x) {
        for (int what : new int[] {MIN, -2, -1, 9, 10, 256, MAX}) {
            CHECK.refuses(name + ": figure(" + what + ")", () -> x.figure(what));
        }
    }

    private static void notRun(String name, MachineTree x) {
        for (int what = 0; what <= 8; what++) {
            int asked = what;
            CHECK.notYet(name + ": figure(" + what + ")", () -> x.figure(asked));
        }
        for (int at : new int[] {MIN, -1, 0, 1, MAX}) {
            CHECK.notYet(name + ": cell(" + at + ")", () -> x.cell(at));
        }
        CHECK.notYet(name + ": share()", () -> x.share());
    }
}

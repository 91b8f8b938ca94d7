import java.util.Arrays;

/** Each boundary that the document names for the tree (promises 7 to 10), in the document's order. */
public final class TreeEdgeTest {
    private static final int MIN = Integer.MIN_VALUE;
    private static final int MAX = Integer.MAX_VALUE;
    private static final int LAST_CALL = 512;
    // the outcomes of all machines with two states, in the order in which they are taken
    private static final String OUTCOMES_OF_TWO = "11313333221313311113313133333213111333333";
    private static final Check CHECK = new Check();

    public static void main(String[] args) {
        theFirstMachine();
        machinesOfTwoStatesOneByOne();
        childrenUpToOneMoreState();
        noStateMoreThanThereAre();
        noChildrenOfTheFullest();
        openBehindAHundredAndTwentySteps();
        decidedLate();
        theFirstOfSeveralChampions();
        onesAreThoseOfTheChampion();
        theLastPromisedCall();
        statesTooFewAndTooMany();
        growTooSmallAndTooLarge();
        aRefusedGrowChangesNothing();
        growToTheEnd();
        growInAnyParts();
        takenOfNone();
        takenOfWhatIsNone();
        championOfNone();
        championWithoutAction();
        championRefusesPlaces();
        meanOfNone();
        meanIsRounded();
        CHECK.end();
    }

    // Terms: "begins with the one that has only the action 1 + 2 + 4 * 1 for state 0 and symbol 0"
    private static void theFirstMachine() {
        for (int n = 2; n <= 4; n++) {
            MachineTree x = new MachineTree(n);
            CHECK.same("the first of " + n, 1, x.grow(1));
            taken("the first of " + n, x, 0, 1, 0, 0, 2, 1, 1);
            CHECK.same("the first of " + n + ": mean", 2f, x.mean());
            champion("the first of " + n, x, codes(n, 7));
        }
    }

    // Terms: "one, then all that come of its first child, then of its second, and so on"
    private static void machinesOfTwoStatesOneByOne() {
        MachineTree x = new MachineTree(2);
        int[] counts = new int[4];
        for (int i = 0; i < OUTCOMES_OF_TWO.length(); i++) {
            counts[OUTCOMES_OF_TWO.charAt(i) - '0']++;
            CHECK.same("machine " + (i + 1) + " is taken", 1, x.grow(1));
            taken("machine " + (i + 1), x, counts);
        }
        CHECK.same("no machine 42", 0, x.grow(1));
    }

    // Terms: "for next states up to the greatest next state among its actions, and one more"
    private static void childrenUpToOneMoreState() {
        MachineTree x = new MachineTree(4);
        grow(x, 13);
        champion("the first that goes to state 2", x, 7, 1, 0, 8, -1, -1, -1, -1);
        CHECK.same("its steps", 6, x.taken(4));
        grow(x, 22);
        champion("the first that goes to state 3", x, 7, 1, 0, 8, 12, 8, -1, -1);
        CHECK.same("its steps", 8, x.taken(4));
    }

    // Terms: "(if there is such a state)"; machine 13 is the ninth child of machine 4, but only where a state 2 is
    private static void noStateMoreThanThereAre() {
        MachineTree three = new MachineTree(3);
        grow(three, 22);
        champion("three states, 22 machines", three, 7, 1, 0, 8, -1, 8);
        grow(three, 13);
        champion("three states, 35 machines", three, 7, 1, 0, 9, -1, 6);
        MachineTree two = new MachineTree(2);
        grow(two, 13);
        champion("two states, 13 machines", two, 7, 1, 0, -1);
    }

    // Terms: "fewer than 2 * n - 1 actions"; machine 4 of two states halts with three actions
    private static void noChildrenOfTheFullest() {
        MachineTree two = new MachineTree(2);
        grow(two, 4);
        taken("two states, 4 machines", two, 0, 3, 0, 1, 5, 2, 2);
        grow(two, 6);
        taken("two states, 10 machines", two, 0, 3, 2, 5, 5, 2, 2);
        MachineTree three = new MachineTree(3);
        grow(three, 10);
        taken("three states, 10 machines", three, 0, 3, 0, 7, 5, 2, 2);
    }

    // Terms: "it is run for at most 120 steps"
    private static void openBehindAHundredAndTwentySteps() {
        MachineTree x = new MachineTree(3);
        grow(x, 10);
        CHECK.same("none open among ten", 0, x.taken(0));
        grow(x, 1);
        CHECK.same("machine 11 is open", 1, x.taken(0));
        grow(x, 1);
        CHECK.same("machine 12 is open", 2, x.taken(0));
        MachineTree all = new MachineTree(3);
        while (all.grow(40) > 0) { }
        taken("all of three states", all, 63, 1379, 361, 2254, 21, 5, 6);
    }

    // within 512 calls, no machine is decided later than this one, behind its step 86
    private static void decidedLate() {
        MachineTree x = new MachineTree(4);
        for (int i = 0; i < 65; i++) {
            grow(x, 40);
        }
        grow(x, 22);
        int before = x.taken(3);
        grow(x, 1);
        CHECK.same("machine 2623 drifts", before + 1, x.taken(3));
    }

    // Terms: "the machine taken that halted with the most steps, the first of several"; 16 is the first with 6
    private static void theFirstOfSeveralChampions() {
        MachineTree x = new MachineTree(2);
        grow(x, 15);
        champion("before the sixteenth", x, 7, 1, 0, -1);
        grow(x, 1);
        champion("the sixteenth", x, 7, 4, 1, -1);
        for (int more : new int[] {1, 7, 9, 8}) {
            grow(x, more);
            champion("behind others with as many steps", x, 7, 4, 1, -1);
        }
    }

    // Promise 8: "5 the champion's ones, 6 the most ones with which one halted"
    private static void onesAreThoseOfTheChampion() {
        MachineTree x = new MachineTree(2);
        grow(x, 16);
        taken("16 of two states", x, 0, 6, 2, 8, 6, 3, 3);
        grow(x, 1);
        taken("17 of two states", x, 0, 7, 2, 8, 6, 3, 4);
        MachineTree y = new MachineTree(3);
        grow(y, 22);
        CHECK.same("a champion without ones", 0, y.taken(5));
        CHECK.same("most ones, not the champion's", 2, y.taken(6));
    }

    // What it is: "at most 512 calls after it has been made"
    private static void theLastPromisedCall() {
        MachineTree x = new MachineTree(4);
        for (int call = 1; call <= LAST_CALL; call++) {
            CHECK.same("call " + call + ": grow(40)", 40, x.grow(40));
        }
        MachineTree y = new MachineTree(4);
        for (int call = 1; call <= LAST_CALL - 16; call++) {
            y.grow(40);
        }
        taken("496 calls of grow(40)", y, 621, 5892, 2147, 11180, 70, 7, 8);
        champion("496 calls of grow(40)", y, 7, 1, 0, 11, 3, 14, -1, 6);
        CHECK.same("call 512: mean()", 69407f / 5892f, y.mean());
    }

    // Promise 1: "2 if that is less and 4 if it is more"
    private static void statesTooFewAndTooMany() {
        int[][] rows = {{MIN, 2}, {-1, 2}, {0, 2}, {1, 2}, {2, 2}, {3, 3}, {4, 4}, {5, 4}, {MAX, 4}};
        for (int[] row : rows) {
            MachineTree x = new MachineTree(row[0]);
            grow(x, 40);
            int due = row[1] == 2 ? 1 : 40;
            CHECK.same("MachineTree(" + row[0] + "): grow(40) again", due, x.grow(40));
            CHECK.same("MachineTree(" + row[0] + "): most steps", row[1] == 2 ? 6 : row[1] == 3 ? 15 : 10, x.taken(4));
        }
    }

    // Promise 7: "many is not 1 .. 40"
    private static void growTooSmallAndTooLarge() {
        for (int many : new int[] {MIN, -40, -1, 0, 41, 42, 80, 65537, MAX}) {
            MachineTree x = new MachineTree(4);
            CHECK.refuses("grow(" + many + ")", () -> x.grow(many));
        }
        for (int many : new int[] {1, 2, 39, 40}) {
            MachineTree x = new MachineTree(4);
            CHECK.answers("grow(" + many + ")", many, () -> x.grow(many));
            CHECK.same("all of grow(" + many + ")", many, x.taken(0) + x.taken(1) + x.taken(2) + x.taken(3));
        }
    }

    private static void aRefusedGrowChangesNothing() {
        MachineTree x = new MachineTree(2);
        CHECK.refuses("grow(0) first", () -> x.grow(0));
        CHECK.refuses("grow(41) first", () -> x.grow(41));
        taken("behind refused calls", x, 0, 0, 0, 0, 0, 0, 0);
        grow(x, 16);
        CHECK.refuses("grow(-1)", () -> x.grow(-1));
        CHECK.refuses("grow(41)", () -> x.grow(41));
        taken("behind more refused calls", x, 0, 6, 2, 8, 6, 3, 3);
        champion("behind more refused calls", x, 7, 4, 1, -1);
        CHECK.same("all the rest", 25, x.grow(40));
    }

    // Promise 7: "how many were taken; 0 when there are no more"
    private static void growToTheEnd() {
        MachineTree x = new MachineTree(2);
        CHECK.same("1 to 40", 40, x.grow(40));
        CHECK.same("the last one", 1, x.grow(2));
        for (int many : new int[] {1, 40, 1}) {
            CHECK.same("no more for grow(" + many + ")", 0, x.grow(many));
        }
        CHECK.refuses("grow(0) behind the end", () -> x.grow(0));
        CHECK.refuses("grow(41) behind the end", () -> x.grow(41));
        taken("behind the end", x, 0, 15, 3, 23, 6, 3, 4);
        champion("behind the end", x, 7, 4, 1, -1);
        CHECK.same("mean behind the end", 64f / 15f, x.mean());
        MachineTree exact = new MachineTree(2);
        grow(exact, 1);
        CHECK.same("the last 40 exactly", 40, exact.grow(40));
        CHECK.same("none behind them", 0, exact.grow(40));
        MachineTree three = new MachineTree(3);
        for (int call = 1; call <= 101; call++) {
            CHECK.same("three states, call " + call, 40, three.grow(40));
        }
        CHECK.same("three states, the last 17", 17, three.grow(40));
        CHECK.same("three states, no more", 0, three.grow(40));
    }

    // what was taken does not depend on the calls by which it was
    private static void growInAnyParts() {
        for (int part = 1; part <= 40; part++) {
            MachineTree x = new MachineTree(2);
            int left = OUTCOMES_OF_TWO.length();
            while (left > 0) {
                CHECK.same("grow(" + part + ") of " + left, Math.min(part, left), x.grow(part));
                left -= Math.min(part, left);
            }
            CHECK.same("grow(" + part + ") of none", 0, x.grow(part));
            taken("by " + part, x, 0, 15, 3, 23, 6, 3, 4);
        }
    }

    // Promise 8: "(4 to 6: 0 when none halted)"
    private static void takenOfNone() {
        for (int n = 2; n <= 4; n++) {
            MachineTree x = new MachineTree(n);
            taken("none taken of " + n, x, 0, 0, 0, 0, 0, 0, 0);
            x.run(300);
            taken("the machine itself is not of the tree", x, 0, 0, 0, 0, 0, 0, 0);
        }
    }

    // Promise 8: "what is none of these"
    private static void takenOfWhatIsNone() {
        MachineTree x = new MachineTree(2);
        for (int round = 0; round < 3; round++) {
            for (int what : new int[] {MIN, -2, -1, 7, 8, 256, MAX}) {
                CHECK.refuses("taken(" + what + ")", () -> x.taken(what));
            }
            x.grow(40);
        }
        taken("behind wrong calls", x, 0, 15, 3, 23, 6, 3, 4);
    }

    // Promise 9: "NONE for none, or when there is no champion"
    private static void championOfNone() {
        for (int n = 2; n <= 4; n++) {
            MachineTree x = new MachineTree(n);
            champion("no champion of " + n, x, codes(n, -1));
            x.set(0, 0, 7);
            x.run(300);
            champion("the machine itself is no champion", x, codes(n, -1));
        }
    }

    private static void championWithoutAction() {
        MachineTree x = new MachineTree(4);
        grow(x, 22);
        champion("22 of four states", x, 7, 1, 0, 8, -1, 8, -1, -1);
        x.set(2, 0, 5);
        CHECK.same("set does not touch the champion", MachineTree.NONE, x.champion(2, 0));
    }

    // Promise 9: "there is no such state or symbol"
    private static void championRefusesPlaces() {
        for (int n = 2; n <= 4; n++) {
            MachineTree x = new MachineTree(n);
            for (int round = 0; round < 2; round++) {
                for (int state : new int[] {MIN, -1, n, n + 1, 1 << 30, MAX}) {
                    CHECK.refuses("champion(" + state + ", 0) of " + n, () -> x.champion(state, 0));
                    CHECK.refuses("champion(" + state + ", 1) of " + n, () -> x.champion(state, 1));
                }
                for (int symbol : new int[] {MIN, -1, 2, 3, MAX}) {
                    int last = n - 1;
                    CHECK.refuses("champion(0, " + symbol + ") of " + n, () -> x.champion(0, symbol));
                    CHECK.refuses("champion(last, " + symbol + ") of " + n, () -> x.champion(last, symbol));
                }
                x.grow(40);
            }
        }
    }

    // Promise 10: "IllegalStateException: none halted"
    private static void meanOfNone() {
        for (int n = 2; n <= 4; n++) {
            MachineTree x = new MachineTree(n);
            CHECK.notYet("mean of none", () -> x.mean());
            x.run(300);
            CHECK.notYet("mean behind run()", () -> x.mean());
            CHECK.refuses("grow(0)", () -> x.grow(0));
            CHECK.notYet("mean behind a refused grow", () -> x.mean());
            x.grow(1);
            CHECK.answers("mean of one", 2f, () -> x.mean());
        }
    }

    // Promise 10: "the sum divided by how many", only of those that halted
    private static void meanIsRounded() {
        MachineTree x = new MachineTree(2);
        grow(x, 3);
        CHECK.same("2 and 3 steps, and one that drifts", 2.5f, x.mean());
        grow(x, 1);
        CHECK.same("2, 3 and 5 steps", 3.3333333f, x.mean());
        MachineTree y = new MachineTree(3);
        while (y.grow(40) > 0) { }
        CHECK.same("all of three states", 7.631617f, y.mean());
    }

    private static int[] codes(int n, int first) {
        int[] codes = new int[2 * n];
        Arrays.fill(codes, MachineTree.NONE);
        codes[0] = first;
        return codes;
    }

    private static void grow(MachineTree x, int many) {
        CHECK.same("grow(" + many + ")", many, x.grow(many));
    }

    /** taken(0) and those behind it are these. */
    private static void taken(String name, MachineTree x, int... due) {
        for (int what = 0; what < due.length; what++) {
            int asked = what;
            CHECK.answers(name + ": taken(" + what + ")", due[what], () -> x.taken(asked));
        }
    }

    private static void champion(String name, MachineTree x, int... due) {
        for (int place = 0; place < due.length; place++) {
            int asked = place;
            CHECK.answers(name + ": champion(" + place / 2 + ", " + place % 2 + ")", due[place],
                () -> x.champion(asked / 2, asked % 2));
        }
    }
}

/** Counts and prints the answers that are not the ones that are due. */
final class Check {
    interface Call {
        Object answer();
    }

    private int wrong = 0;
    private int all = 0;

    void same(String call, Object want, Object got) {
        all++;
        if (!want.equals(got)) {
            wrong++;
            if (wrong <= 50) {
                System.out.println(call + " answered " + got + ", due is " + want);
            }
        }
    }

    void answers(String call, Object want, Call made) {
        same(call, want, outcome(made));
    }

    void refuses(String call, Call made) {
        same(call, "throws.IllegalArgumentException", outcome(made));
    }

    void notYet(String call, Call made) {
        same(call, "throws.IllegalStateException", outcome(made));
    }

    void end() {
        System.out.println(all + " answers, " + wrong + " not as due");
        if (wrong != 0 || all == 0) {
            System.exit(1);
        }
    }

    private static Object outcome(Call made) {
        try {
            return made.answer();
        } catch (RuntimeException thrown) {
            return "throws." + thrown.getClass().getSimpleName();
        }
    }
}

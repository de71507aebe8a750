import java.util.function.IntUnaryOperator;

// What the tests of the project share: an answer that is due, an exception that is due,
// and the count of those that were not as due.
abstract class Checks {
    static final String INDEX = "IndexOutOfBoundsException";
    static final String ARGUMENT = "IllegalArgumentException";
    static final String STATE = "IllegalStateException";
    static final int LOW = Integer.MIN_VALUE;
    static final int HIGH = Integer.MAX_VALUE;
    /** As many steps as a search may have. */
    static final int ALL = 20000;

    private static int wrong = 0;
    private static int checks = 0;
    private static String heading = "";

    interface Call {
        int answer();
    }

    interface Deed {
        void go();
    }

    /** What the checks from here on are about; it stands before each row that is not as due. */
    static void under(String text) {
        heading = text;
    }

    static void due(String what, int want, Call call) {
        compare(what, Integer.toString(want), outcome(call));
    }

    /** The question asked of 0, 1, 2, .. in turn, as far as answers are named. */
    static void dueInTurn(String what, int[] answers, IntUnaryOperator question) {
        for (int k = 0; k < answers.length; k++) {
            int asked = k;
            due(what + " of " + k, answers[k], () -> question.applyAsInt(asked));
        }
    }

    /** Told anew, then searched by all steps: what run answers. */
    static void runIs(String what, int want, DayCutPlans x, Deed told) {
        told.go();
        due(what, want, () -> x.run(ALL));
    }

    static void searchIs(String when, DayCutPlans x, int... answers) {
        dueInTurn(when + ": search", answers, x::search);
    }

    static void bestIs(String when, DayCutPlans x, int... answers) {
        dueInTurn(when + ": best", answers, x::best);
    }

    static void usedIs(String when, DayCutPlans x, int... answers) {
        dueInTurn(when + ": used", answers, x::used);
    }

    static void madeIs(String when, DayCutPlans x, int... answers) {
        dueInTurn(when + ": made", answers, x::made);
    }

    static void millIs(String when, DayCutPlans x, int... answers) {
        dueInTurn(when + ": mill", answers, x::mill);
    }

    static void nothingIsBest(String when, DayCutPlans x) {
        refusedInTurn(when + ": best", 3, x::best);
        refusedInTurn(when + ": made", 4, x::made);
        refused(when + ": saw", STATE, x::saw);
    }

    static void nothingIsSearched(String when, DayCutPlans x) {
        refusedInTurn(when + ": search", 4, x::search);
        nothingIsBest(when, x);
    }

    private static void refusedInTurn(String what, int questions, IntUnaryOperator question) {
        for (int k = 0; k < questions; k++) {
            int asked = k;
            refused(what + " of " + k, STATE, () -> question.applyAsInt(asked));
        }
    }

    static void refused(String what, String want, Call call) {
        compare(what, want, outcome(call));
    }

    static void refusedDeed(String what, String want, Deed deed) {
        compare(what, want, outcomeOfDeed(deed));
    }

    static void taken(String what, Deed deed) {
        compare(what, "done", outcomeOfDeed(deed));
    }

    /** The answer, or the name of the very class that was thrown. */
    static String outcome(Call call) {
        try {
            return Integer.toString(call.answer());
        } catch (RuntimeException e) {
            return e.getClass().getSimpleName();
        }
    }

    static String outcomeOfDeed(Deed deed) {
        try {
            deed.go();
            return "done";
        } catch (RuntimeException e) {
            return e.getClass().getSimpleName();
        }
    }

    static void compare(String what, String want, String got) {
        checks++;
        if (!want.equals(got)) {
            wrong++;
            System.out.println(heading + ": " + what + " answered " + got + ", due is " + want);
        }
    }

    static void end() {
        System.out.println(checks + " answers, " + wrong + " of them wrong");
        if (wrong != 0) {
            System.exit(1);
        }
    }
}

import java.util.ArrayList;
import java.util.List;
import java.util.function.Consumer;
import java.util.function.ToIntFunction;

// A call that throws changes nothing, and of several exceptions the one named first is
// thrown: each call that can be refused, in each state that an object can be in, made on
// one of two objects with the same past; whatever is asked of them later is answered alike.
public final class RefusedTests extends Checks {
    /** What an object lived through before the refused call, and what is true of it then. */
    private record State(String name, Consumer<DayCutPlans> past, int patterns,
            boolean searched, boolean best, boolean fills) {
        DayCutPlans made() {
            DayCutPlans x = new DayCutPlans();
            past.accept(x);
            return x;
        }
    }

    private record Refusal(String call, String exception, ToIntFunction<DayCutPlans> asked) {
    }

    // ---- the states

    /** Every class, product and pattern counts for the best plan, so that a change of any shows. */
    private static void tellMill(DayCutPlans x) {
        for (int k = 0; k < 4; k++) {
            x.logs(k, 2, 10 + k);
            x.pattern(k, 20 + k);
            x.gives(k, k, 3);
            x.gives(k, (k + 1) % 4, 1);
            x.order(k, 2, 5, 50 + k);
        }
        x.hours(200, 5);
    }

    private static List<State> states() {
        List<State> states = new ArrayList<>();
        states.add(new State("new", x -> { }, 0, false, false, true));
        states.add(new State("searched without patterns", x -> x.run(0), 0, true, true, true));
        states.add(new State("told", RefusedTests::tellMill, 4, false, false, true));
        states.add(new State("searched", x -> {
            tellMill(x);
            x.run(ALL);
        }, 4, true, true, true));
        states.add(new State("spent without a plan", x -> {
            tellMill(x);
            x.run(3);
        }, 4, true, false, true));
        states.add(new State("spent with a plan", x -> {
            tellMill(x);
            x.run(70);
        }, 4, true, true, true));
        states.add(new State("none fills", x -> {
            tellMill(x);
            x.order(2, 100, 100, 1);
            x.run(ALL);
        }, 4, true, false, false));
        states.add(new State("sawn", x -> {
            tellMill(x);
            x.run(ALL);
            x.saw();
        }, 4, true, false, true));
        states.add(new State("sawn, told and searched again", x -> {
            tellMill(x);
            x.run(ALL);
            x.saw();
            x.logs(1, 3, 8);
            x.logs(2, 3, 9);
            x.order(0, 0, 3, 40);
            x.run(ALL);
        }, 4, true, true, true));
        states.add(new State("six patterns, searched", x -> {
            tellMill(x);
            x.pattern(0, 7);
            x.pattern(1, 8);
            x.gives(4, 3, 2);
            x.run(ALL);
        }, 6, true, true, true));
        return states;
    }

    // ---- the calls that are refused

    private static Refusal told(String call, String exception, Consumer<DayCutPlans> told) {
        return new Refusal(call, exception, x -> {
            told.accept(x);
            return 0;
        });
    }

    private static List<Refusal> wrongNumbers() {
        List<Refusal> calls = new ArrayList<>();
        addWrongLogs(calls);
        addWrongPatterns(calls);
        addWrongGives(calls);
        addWrongOrders(calls);
        addWrongHours(calls);
        addWrongQuestions(calls);
        return calls;
    }

    private static void addWrongLogs(List<Refusal> calls) {
        for (int cls : new int[] {-1, 4}) {
            calls.add(told("logs(" + cls + ", 1, 1)", INDEX, x -> x.logs(cls, 1, 1)));
            calls.add(told("logs(" + cls + ", -1, 1)", INDEX, x -> x.logs(cls, -1, 1)));
            calls.add(told("logs(" + cls + ", 1, 100001)", INDEX, x -> x.logs(cls, 1, 100001)));
        }
        for (int k = 0; k < 4; k++) {
            int cls = k;
            calls.add(told("logs(" + cls + ", -1, 1)", ARGUMENT, x -> x.logs(cls, -1, 1)));
            calls.add(told("logs(" + cls + ", 1001, 1)", ARGUMENT, x -> x.logs(cls, 1001, 1)));
            calls.add(told("logs(" + cls + ", 1, -1)", ARGUMENT, x -> x.logs(cls, 1, -1)));
            calls.add(told("logs(" + cls + ", 1, 100001)", ARGUMENT, x -> x.logs(cls, 1, 100001)));
        }
    }

    private static void addWrongPatterns(List<Refusal> calls) {
        for (int cls : new int[] {-1, 4}) {
            calls.add(new Refusal("pattern(" + cls + ", 1)", INDEX, x -> x.pattern(cls, 1)));
            calls.add(new Refusal("pattern(" + cls + ", 0)", INDEX, x -> x.pattern(cls, 0)));
        }
        for (int minutes : new int[] {0, 481}) {
            calls.add(new Refusal("pattern(0, " + minutes + ")", ARGUMENT, x -> x.pattern(0, minutes)));
        }
    }

    private static void addWrongGives(List<Refusal> calls) {
        for (int pattern : new int[] {-1, 6}) {
            calls.add(told("gives(" + pattern + ", 0, 7)", INDEX, x -> x.gives(pattern, 0, 7)));
            calls.add(told("gives(" + pattern + ", 0, 10)", INDEX, x -> x.gives(pattern, 0, 10)));
            calls.add(told("gives(" + pattern + ", 4, 7)", INDEX, x -> x.gives(pattern, 4, 7)));
        }
        for (int product : new int[] {-1, 4}) {
            calls.add(told("gives(0, " + product + ", 7)", INDEX, x -> x.gives(0, product, 7)));
            calls.add(told("gives(0, " + product + ", -1)", INDEX, x -> x.gives(0, product, -1)));
        }
    }

    private static void addWrongOrders(List<Refusal> calls) {
        int[][] wrong = {{-1, 7, 7}, {1001, 1001, 7}, {1001, 7, 7}, {6, 5, 7}, {1, -1, 7}, {1, 1001, 7},
            {1, 7, -1}, {1, 7, 1001}};
        for (int product = -1; product <= 4; product++) {
            int asked = product;
            String exception = product < 0 || product > 3 ? INDEX : ARGUMENT;
            for (int[] w : wrong) {
                calls.add(told("order(" + product + ", " + w[0] + ", " + w[1] + ", " + w[2] + ")", exception,
                        x -> x.order(asked, w[0], w[1], w[2])));
            }
        }
        calls.add(told("order(-1, 1, 1, 1)", INDEX, x -> x.order(-1, 1, 1, 1)));
        calls.add(told("order(4, 1, 1, 1)", INDEX, x -> x.order(4, 1, 1, 1)));
    }

    private static void addWrongHours(List<Refusal> calls) {
        for (int minutes : new int[] {-1, 1441}) {
            calls.add(told("hours(" + minutes + ", 1)", ARGUMENT, x -> x.hours(minutes, 1)));
            calls.add(told("hours(30, " + minutes + ")", ARGUMENT, x -> x.hours(30, minutes)));
        }
    }

    private static void addWrongQuestions(List<Refusal> calls) {
        for (int steps : new int[] {-1, 20001}) {
            calls.add(new Refusal("run(" + steps + ")", ARGUMENT, x -> x.run(steps)));
            calls.add(new Refusal("cost(0, " + steps + ")", ARGUMENT, x -> x.cost(0, steps)));
            calls.add(new Refusal("cost(4, " + steps + ")", INDEX, x -> x.cost(4, steps)));
        }
        calls.add(new Refusal("cost(-1, 20000)", INDEX, x -> x.cost(-1, 20000)));
        calls.add(new Refusal("cost(4, 20000)", INDEX, x -> x.cost(4, 20000)));
        calls.add(new Refusal("cost(4, 0)", INDEX, x -> x.cost(4, 0)));
        calls.add(new Refusal("search(-1)", INDEX, x -> x.search(-1)));
        calls.add(new Refusal("search(4)", INDEX, x -> x.search(4)));
        calls.add(new Refusal("used(-1)", INDEX, x -> x.used(-1)));
        calls.add(new Refusal("used(6)", INDEX, x -> x.used(6)));
        calls.add(new Refusal("best(-1)", INDEX, x -> x.best(-1)));
        calls.add(new Refusal("best(3)", INDEX, x -> x.best(3)));
        calls.add(new Refusal("made(-1)", INDEX, x -> x.made(-1)));
        calls.add(new Refusal("made(4)", INDEX, x -> x.made(4)));
        calls.add(new Refusal("mill(-1)", INDEX, x -> x.mill(-1)));
        calls.add(new Refusal("mill(6)", INDEX, x -> x.mill(6)));
    }

    /** What is refused in this state alone, or by another exception than elsewhere. */
    private static List<Refusal> refusedIn(State state) {
        List<Refusal> calls = new ArrayList<>();
        int next = state.patterns;
        calls.add(told("gives of the next pattern", INDEX, x -> x.gives(next, 0, 1)));
        calls.add(new Refusal("used of the next pattern", INDEX, x -> x.used(next)));
        for (int k = 0; k < state.patterns; k++) {
            int pattern = k;
            calls.add(told("gives(" + k + ", 0, -1)", ARGUMENT, x -> x.gives(pattern, 0, -1)));
            calls.add(told("gives(" + k + ", 3, 10)", ARGUMENT, x -> x.gives(pattern, 3, 10)));
        }
        if (state.patterns == 6) {
            calls.add(new Refusal("pattern(0, 1)", STATE, x -> x.pattern(0, 1)));
            calls.add(new Refusal("pattern(3, 480)", STATE, x -> x.pattern(3, 480)));
        }
        addQuestionsWithoutAnswer(state, calls);
        return calls;
    }

    private static void addQuestionsWithoutAnswer(State state, List<Refusal> calls) {
        for (int k = 0; k < 4; k++) {
            int what = k;
            if (!state.searched) {
                calls.add(new Refusal("search(" + k + ")", STATE, x -> x.search(what)));
            }
            if (!state.best) {
                calls.add(new Refusal("made(" + k + ")", STATE, x -> x.made(what)));
            }
            if (!state.best && k < 3) {
                calls.add(new Refusal("best(" + k + ")", STATE, x -> x.best(what)));
            }
            if (!state.best && k < state.patterns) {
                calls.add(new Refusal("used(" + k + ")", STATE, x -> x.used(what)));
            }
            if (state.patterns > 0) {
                calls.add(new Refusal("cost(" + k + ", 0)", STATE, x -> x.cost(what, 0)));
            }
            if (!state.fills) {
                calls.add(new Refusal("cost(" + k + ", 20000)", STATE, x -> x.cost(what, ALL)));
            }
        }
        if (!state.best) {
            calls.add(new Refusal("saw()", STATE, DayCutPlans::saw));
        }
    }

    private static void stateIsAsNamed(State state) {
        DayCutPlans x = state.made();
        String flag = state.best ? "1" : "0";
        compare("search(2)", state.searched ? flag : STATE, outcome(() -> x.search(2)));
        due("logs give a plan", state.fills ? 0 : 1, () -> x.run(ALL));
    }

    // ---- what later calls show

    private static void addAnswers(DayCutPlans x, List<String> shown) {
        for (int k = 0; k < 6; k++) {
            int asked = k;
            shown.add("mill " + k + " " + outcome(() -> x.mill(asked)));
            shown.add("used " + k + " " + outcome(() -> x.used(asked)));
        }
        for (int k = 0; k < 4; k++) {
            int asked = k;
            shown.add("search " + k + " " + outcome(() -> x.search(asked)));
            shown.add("best " + k + " " + outcome(() -> x.best(asked)));
            shown.add("made " + k + " " + outcome(() -> x.made(asked)));
            shown.add("cost " + k + " " + outcome(() -> x.cost(asked, ALL)));
            shown.add("cost by 70 steps " + k + " " + outcome(() -> x.cost(asked, 70)));
        }
    }

    /** All that an object can be made to show of itself, in some two hundred calls. */
    private static List<String> shownBy(DayCutPlans x) {
        List<String> shown = new ArrayList<>();
        addAnswers(x, shown);
        shown.add("saw " + outcome(x::saw));
        addAnswers(x, shown);
        shown.add("run " + outcome(() -> x.run(ALL)));
        addAnswers(x, shown);
        shown.add("saw " + outcome(x::saw));
        addAnswers(x, shown);
        shown.add("pattern " + outcome(() -> x.pattern(3, 9)));
        for (int k = 0; k < 4; k++) {
            x.order(k, 0, 1000, 1000);
        }
        shown.add("run with other orders " + outcome(() -> x.run(ALL)));
        addAnswers(x, shown);
        shown.add("saw " + outcome(x::saw));
        for (int k = 0; k < 4; k++) {
            x.logs(k, 1, 1);
        }
        x.hours(480, 1);
        shown.add("run with other logs and hours " + outcome(() -> x.run(ALL)));
        addAnswers(x, shown);
        return shown;
    }

    private static void changesNothing(State state, Refusal refusal, List<String> due) {
        DayCutPlans x = state.made();
        refused(refusal.call, refusal.exception, () -> refusal.asked.applyAsInt(x));
        List<String> shown = shownBy(x);
        for (int row = 0; row < due.size(); row++) {
            compare("after " + refusal.call + ", row " + row, due.get(row), shown.get(row));
        }
    }

    public static void main(String[] args) {
        List<Refusal> everywhere = wrongNumbers();
        for (State state : states()) {
            under("A call that throws changes nothing, " + state.name);
            stateIsAsNamed(state);
            List<Refusal> calls = new ArrayList<>(everywhere);
            calls.addAll(refusedIn(state));
            List<String> due = shownBy(state.made());
            for (Refusal refusal : calls) {
                changesNothing(state, refusal, due);
            }
        }
        end();
    }
}

import java.util.ArrayList;
import java.util.Arrays;
import java.util.List;
import java.util.Random;

// Long runs of calls, wrong ones among them, answered by the class and by a plain
// model that counts every plan anew from the words of the document.
public final class ModelRuns {
    private static final int RUNS = 3000;
    private static final int CALLS = 60;
    // an object answers for 512 calls, and checkState makes 30 of them
    private static final int STATE_CHECKS = 15;

    private static int wrong = 0;
    private static int checks = 0;

    private static final class Model {
        final int[] logs = new int[4];
        final int[] cents = new int[4];
        final List<int[]> patterns = new ArrayList<>();
        final int[][] gives = new int[6][4];
        final int[][] orders = new int[4][3];
        final int[] stock = new int[4];
        int hours = 480;
        int change = 0;
        int days = 0;
        int earned = 0;
        Outcome latest = null;
        int[] best = null;
    }

    private static final class Outcome {
        int steps = 0;
        boolean spent = false;
        int[] best = null;
    }

    private static boolean fits(Model m, int[] plan) {
        int[] taken = new int[4];
        int minutes = minutes(m, plan);
        for (int p = 0; p < plan.length; p++) {
            taken[m.patterns.get(p)[0]] += plan[p];
        }
        for (int cls = 0; cls < 4; cls++) {
            if (taken[cls] > m.logs[cls]) {
                return false;
            }
        }
        return minutes <= m.hours;
    }

    private static int minutes(Model m, int[] plan) {
        int minutes = 0;
        for (int p = 0; p < plan.length; p++) {
            minutes += plan[p] * m.patterns.get(p)[1] + (plan[p] > 0 ? m.change : 0);
        }
        return minutes;
    }

    private static int made(Model m, int[] plan, int product) {
        int made = m.stock[product];
        for (int p = 0; p < plan.length; p++) {
            made += plan[p] * m.gives[p][product];
        }
        return made;
    }

    private static boolean fills(Model m, int[] plan, int[][] orders) {
        for (int k = 0; k < 4; k++) {
            if (made(m, plan, k) < orders[k][0]) {
                return false;
            }
        }
        return true;
    }

    private static int gain(Model m, int[] plan, int[][] orders) {
        int gain = 0;
        for (int k = 0; k < 4; k++) {
            gain += orders[k][2] * Math.min(made(m, plan, k), orders[k][1]);
        }
        for (int p = 0; p < plan.length; p++) {
            gain -= plan[p] * m.cents[m.patterns.get(p)[0]];
        }
        return gain;
    }

    private static Outcome searched(Model m, int steps, int[][] orders) {
        Outcome o = new Outcome();
        tell(m, new int[m.patterns.size()], 0, steps, orders, o);
        return o;
    }

    private static void tell(Model m, int[] plan, int p, int steps, int[][] orders, Outcome o) {
        if (p == plan.length) {
            if (fills(m, plan, orders)
                    && (o.best == null || gain(m, plan, orders) > gain(m, o.best, orders))) {
                o.best = plan.clone();
            }
            return;
        }
        for (int n = 0; n <= 12; n++) {
            int[] next = plan.clone();
            next[p] = n;
            if (!fits(m, next)) {
                return;
            }
            if (o.steps == steps) {
                o.spent = true;
                return;
            }
            o.steps++;
            tell(m, next, p + 1, steps, orders, o);
            if (o.spent) {
                return;
            }
        }
    }

    private static boolean out(int value, int low, int high) {
        return value < low || value > high;
    }

    private static String told(Model m) {
        m.latest = null;
        m.best = null;
        return "done";
    }

    private static String tells(Model m, String name, int[] a) {
        switch (name) {
            case "logs":
                if (out(a[0], 0, 3)) return "index";
                if (out(a[1], 0, 1000) || out(a[2], 0, 100000)) return "argument";
                m.logs[a[0]] = a[1];
                m.cents[a[0]] = a[2];
                return told(m);
            case "pattern":
                if (out(a[0], 0, 3)) return "index";
                if (out(a[1], 1, 480)) return "argument";
                if (m.patterns.size() == 6) return "state";
                m.patterns.add(new int[] {a[0], a[1]});
                told(m);
                return Integer.toString(m.patterns.size() - 1);
            case "gives":
                if (out(a[0], 0, m.patterns.size() - 1) || out(a[1], 0, 3)) return "index";
                if (out(a[2], 0, 9)) return "argument";
                m.gives[a[0]][a[1]] = a[2];
                return told(m);
            case "order":
                if (out(a[0], 0, 3)) return "index";
                if (out(a[1], 0, 1000) || out(a[2], a[1], 1000) || out(a[3], 0, 1000)) return "argument";
                m.orders[a[0]] = new int[] {a[1], a[2], a[3]};
                return told(m);
            default:
                if (out(a[0], 0, 1440) || out(a[1], 0, 1440)) return "argument";
                m.hours = a[0];
                m.change = a[1];
                return told(m);
        }
    }

    private static String asks(Model m, String name, int[] a) {
        switch (name) {
            case "run":
                if (out(a[0], 0, 20000)) return "argument";
                m.latest = searched(m, a[0], m.orders);
                m.best = m.latest.best;
                return m.latest.spent ? "2" : m.best == null ? "1" : "0";
            case "search":
                if (out(a[0], 0, 3)) return "index";
                if (m.latest == null) return "state";
                int bound = 0;
                for (int[] order : m.orders) {
                    bound += order[1] * order[2];
                }
                int[] answers = {m.latest.steps, m.latest.spent ? 0 : 1, m.best == null ? 0 : 1, bound};
                return Integer.toString(answers[a[0]]);
            case "used":
                if (out(a[0], 0, m.patterns.size() - 1)) return "index";
                return m.best == null ? "state" : Integer.toString(m.best[a[0]]);
            case "best":
                if (out(a[0], 0, 2)) return "index";
                if (m.best == null) return "state";
                int inUse = (int) Arrays.stream(m.best).filter(n -> n > 0).count();
                return Integer.toString(new int[] {gain(m, m.best, m.orders), minutes(m, m.best), inUse}[a[0]]);
            case "made":
                if (out(a[0], 0, 3)) return "index";
                return m.best == null ? "state" : Integer.toString(made(m, m.best, a[0]));
            case "saw":
                return m.best == null ? "state" : Integer.toString(sawn(m));
            case "mill":
                if (out(a[0], 0, 5)) return "index";
                return Integer.toString(a[0] == 0 ? m.days : a[0] == 1 ? m.earned : m.stock[a[0] - 2]);
            default:
                return cost(m, a);
        }
    }

    private static int sawn(Model m) {
        int gain = gain(m, m.best, m.orders);
        int[] left = new int[4];
        for (int k = 0; k < 4; k++) {
            left[k] = Math.max(0, made(m, m.best, k) - m.orders[k][1]);
        }
        System.arraycopy(left, 0, m.stock, 0, 4);
        for (int p = 0; p < m.best.length; p++) {
            m.logs[m.patterns.get(p)[0]] -= m.best[p];
        }
        m.days++;
        m.earned += gain;
        m.best = null;
        return gain;
    }

    private static String cost(Model m, int[] a) {
        if (out(a[0], 0, 3)) return "index";
        if (out(a[1], 0, 20000)) return "argument";
        int[][] without = m.orders.clone();
        without[a[0]] = new int[3];
        int[] with = searched(m, a[1], m.orders).best;
        int[] other = searched(m, a[1], without).best;
        if (with == null || other == null) return "state";
        return Integer.toString(gain(m, with, m.orders) - gain(m, other, without));
    }

    private static String answered(DayCutPlans x, String name, int[] a) {
        try {
            switch (name) {
                case "logs": x.logs(a[0], a[1], a[2]); return "done";
                case "pattern": return Integer.toString(x.pattern(a[0], a[1]));
                case "gives": x.gives(a[0], a[1], a[2]); return "done";
                case "order": x.order(a[0], a[1], a[2], a[3]); return "done";
                case "hours": x.hours(a[0], a[1]); return "done";
                case "run": return Integer.toString(x.run(a[0]));
                case "search": return Integer.toString(x.search(a[0]));
                case "used": return Integer.toString(x.used(a[0]));
                case "best": return Integer.toString(x.best(a[0]));
                case "made": return Integer.toString(x.made(a[0]));
                case "saw": return Integer.toString(x.saw());
                case "mill": return Integer.toString(x.mill(a[0]));
                default: return Integer.toString(x.cost(a[0], a[1]));
            }
        } catch (RuntimeException e) {
            // the very class, for a class below it would be one that the machine throws
            if (e.getClass() == IndexOutOfBoundsException.class) return "index";
            if (e.getClass() == IllegalArgumentException.class) return "argument";
            if (e.getClass() == IllegalStateException.class) return "state";
            return e.toString();
        }
    }

    private static int within(Random r, int low, int high) {
        return low + r.nextInt(high - low + 1);
    }

    /** Mostly a number that is as said, now and then one at the edge or beyond it. */
    private static int number(Random r, int low, int high, int usual) {
        int[] odd = {low - 1, low, high, high + 1, Integer.MIN_VALUE, Integer.MAX_VALUE};
        return r.nextInt(25) == 0 ? odd[r.nextInt(odd.length)] : within(r, low, usual);
    }

    private static int[] numbers(Random r, String name, int patterns) {
        int least = number(r, 0, 1000, 3);
        switch (name) {
            case "logs": return new int[] {number(r, 0, 3, 3), number(r, 0, 1000, 8), number(r, 0, 100000, 40)};
            case "pattern": return new int[] {number(r, 0, 3, 3), number(r, 1, 480, 120)};
            case "gives": return new int[] {number(r, 0, patterns - 1, Math.max(0, patterns - 1)),
                number(r, 0, 3, 3), number(r, 0, 9, 9)};
            case "order": return new int[] {number(r, 0, 3, 3), r.nextInt(3) == 0 ? least : 0,
                least < 1000 ? least + number(r, 0, 1000, 12) : 1000, number(r, 0, 1000, 30)};
            case "hours": return new int[] {number(r, 0, 1440, 900), number(r, 0, 1440, 60)};
            case "run": return new int[] {number(r, 0, 20000, 700)};
            case "search": return new int[] {number(r, 0, 3, 3)};
            case "used": return new int[] {number(r, 0, patterns - 1, Math.max(0, patterns - 1))};
            case "best": return new int[] {number(r, 0, 2, 2)};
            case "made": return new int[] {number(r, 0, 3, 3)};
            case "saw": return new int[0];
            case "mill": return new int[] {number(r, 0, 5, 5)};
            default: return new int[] {number(r, 0, 3, 3), number(r, 0, 20000, 700)};
        }
    }

    private static boolean check(int run, DayCutPlans x, Model m, String name, int... a) {
        boolean telling = List.of("logs", "pattern", "gives", "order", "hours").contains(name);
        String due = telling ? tells(m, name, a) : asks(m, name, a);
        String got = answered(x, name, a);
        checks++;
        if (!due.equals(got)) {
            wrong++;
            System.out.println("run " + run + ": " + name + Arrays.toString(a)
                    + " answered " + got + ", due is " + due);
        }
        return due.equals(got);
    }

    /** Every question that changes nothing. */
    private static void checkState(int run, DayCutPlans x, Model m) {
        for (int what = 0; what < 6; what++) {
            check(run, x, m, "mill", what);
            check(run, x, m, "search", what);
            check(run, x, m, "best", what);
            check(run, x, m, "used", what);
            check(run, x, m, "made", what);
        }
    }

    private static void oneRun(int run, Random r) {
        String[] telling = {"logs", "pattern", "gives", "order", "hours"};
        String[] names = {"logs", "pattern", "gives", "gives", "order", "order", "hours", "run", "run", "run",
            "search", "used", "best", "made", "saw", "saw", "mill", "cost", "cost"};
        DayCutPlans x = new DayCutPlans();
        Model m = new Model();
        int stateChecks = 0;
        for (int call = 0; call < CALLS && wrong < 20; call++) {
            boolean first = call < CALLS / 3;
            String name = first ? telling[r.nextInt(telling.length)] : names[r.nextInt(names.length)];
            check(run, x, m, name, numbers(r, name, m.patterns.size()));
            if (!first && stateChecks < STATE_CHECKS && r.nextInt(3) == 0) {
                stateChecks++;
                checkState(run, x, m);
            }
        }
    }

    public static void main(String[] args) {
        Random r = new Random(20261115L);
        for (int run = 1; run <= RUNS && wrong < 20; run++) {
            oneRun(run, r);
        }
        System.out.println(checks + " answers, " + wrong + " of them wrong");
        if (wrong != 0) {
            System.exit(1);
        }
    }
}

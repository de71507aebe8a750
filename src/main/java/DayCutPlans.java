/**
 * Days of a saw mill: what is told of logs, patterns, orders and hours, the
 * search for the day's best plan by counted steps, and the days that are sawn.
 */
public final class DayCutPlans {
    /** No such thing; inside, the order that is left out of a search when none is. */
    public static final int NONE = -1;

    private static final int CLASSES = 4;
    private static final int PRODUCTS = 4;
    private static final int MAX_PATTERNS = 6;
    private static final int MAX_LOGS_A_PATTERN = 12;
    private static final int MAX_LOGS = 1000;
    private static final int MAX_CENTS = 100000;
    private static final int MAX_PATTERN_MINUTES = 480;
    private static final int MAX_BOARDS = 9;
    private static final int MAX_ORDER = 1000;
    private static final int MAX_WORTH = 1000;
    private static final int MAX_DAY_MINUTES = 1440;
    private static final int MAX_STEPS = 20000;
    private static final int FIRST_DAY_MINUTES = 480;
    private static final int SEARCH_ANSWERS = 4;
    private static final int BEST_ANSWERS = 3;
    private static final int MILL_COUNTERS = 2;

    private final Yard yard;
    private final Search latest;
    // cost searches here, so that what the latest search found stays as it is
    private final Search trial;
    private boolean searchedSinceTold;
    private int days;
    private int earned;

    public DayCutPlans() {
        yard = new Yard();
        latest = new Search(yard);
        trial = new Search(yard);
    }

    public void logs(int cls, int logs, int cents)
            throws IndexOutOfBoundsException, IllegalArgumentException {
        needIndex(cls, CLASSES);
        needRange(logs, 0, MAX_LOGS);
        needRange(cents, 0, MAX_CENTS);
        yard.logsLeft[cls] = logs;
        yard.centsALog[cls] = cents;
        forgetSearch();
    }

    public int pattern(int cls, int minutes)
            throws IndexOutOfBoundsException, IllegalArgumentException, IllegalStateException {
        needIndex(cls, CLASSES);
        needRange(minutes, 1, MAX_PATTERN_MINUTES);
        int number = yard.patterns;
        if (number >= MAX_PATTERNS) {
            throw new IllegalStateException("there is no room for a pattern more");
        }
        yard.classOf[number] = cls;
        yard.minutesALog[number] = minutes;
        yard.patterns = number + 1;
        forgetSearch();
        return number;
    }

    public void gives(int pattern, int product, int boards)
            throws IndexOutOfBoundsException, IllegalArgumentException {
        needIndex(pattern, yard.patterns);
        needIndex(product, PRODUCTS);
        needRange(boards, 0, MAX_BOARDS);
        yard.boardsALog[pattern][product] = boards;
        forgetSearch();
    }

    public void order(int product, int least, int most, int worth)
            throws IndexOutOfBoundsException, IllegalArgumentException {
        needIndex(product, PRODUCTS);
        needRange(least, 0, MAX_ORDER);
        needRange(most, least, MAX_ORDER);
        needRange(worth, 0, MAX_WORTH);
        yard.least[product] = least;
        yard.most[product] = most;
        yard.worth[product] = worth;
        forgetSearch();
    }

    public void hours(int minutes, int change) throws IllegalArgumentException {
        needRange(minutes, 0, MAX_DAY_MINUTES);
        needRange(change, 0, MAX_DAY_MINUTES);
        yard.minutesADay = minutes;
        yard.change = change;
        forgetSearch();
    }

    public int run(int steps) throws IllegalArgumentException {
        needRange(steps, 0, MAX_STEPS);
        latest.goThroughPlans(steps, NONE);
        searchedSinceTold = true;
        if (latest.spent) {
            return 2;
        }
        return latest.found ? 0 : 1;
    }

    public int search(int what) throws IndexOutOfBoundsException, IllegalStateException {
        needIndex(what, SEARCH_ANSWERS);
        if (!searchedSinceTold) {
            throw new IllegalStateException("there was no search since something was told");
        }
        switch (what) {
            case 0:
                return latest.steps;
            case 1:
                return latest.spent ? 0 : 1;
            case 2:
                return latest.found ? 1 : 0;
            default:
                return yard.boundOfGain();
        }
    }

    public int used(int pattern) throws IndexOutOfBoundsException, IllegalStateException {
        needIndex(pattern, yard.patterns);
        needBest(latest);
        return latest.bestCounts[pattern];
    }

    public int best(int what) throws IndexOutOfBoundsException, IllegalStateException {
        needIndex(what, BEST_ANSWERS);
        needBest(latest);
        switch (what) {
            case 0:
                return latest.bestGain;
            case 1:
                return yard.minutesOf(latest.bestCounts);
            default:
                return yard.patternsUsedIn(latest.bestCounts);
        }
    }

    public int made(int product) throws IndexOutOfBoundsException, IllegalStateException {
        needIndex(product, PRODUCTS);
        needBest(latest);
        return yard.madeBy(latest.bestCounts, product);
    }

    public int saw() throws IllegalStateException {
        needBest(latest);
        int gain = latest.bestGain;
        yard.doPlan(latest.bestCounts);
        earned += gain;
        days++;
        // the search itself is still the latest one: sawing tells nothing new
        latest.found = false;
        return gain;
    }

    public int mill(int what) throws IndexOutOfBoundsException {
        needIndex(what, MILL_COUNTERS + PRODUCTS);
        switch (what) {
            case 0:
                return days;
            case 1:
                return earned;
            default:
                return yard.stock[what - MILL_COUNTERS];
        }
    }

    public int cost(int product, int steps)
            throws IndexOutOfBoundsException, IllegalArgumentException, IllegalStateException {
        needIndex(product, PRODUCTS);
        needRange(steps, 0, MAX_STEPS);
        int gainWithOrder = gainOfTrial(steps, NONE);
        int gainWithoutOrder = gainOfTrial(steps, product);
        return gainWithOrder - gainWithoutOrder;
    }

    private int gainOfTrial(int steps, int orderLeftOut) {
        trial.goThroughPlans(steps, orderLeftOut);
        needBest(trial);
        return trial.bestGain;
    }

    private void forgetSearch() {
        searchedSinceTold = false;
        latest.found = false;
    }

    private static void needIndex(int index, int size) {
        if (index < 0 || index >= size) {
            throw new IndexOutOfBoundsException("there is no such number");
        }
    }

    private static void needRange(int value, int low, int high) {
        if (value < low || value > high) {
            throw new IllegalArgumentException("a number is out of its range");
        }
    }

    private static void needBest(Search search) {
        if (!search.found) {
            throw new IllegalStateException("there is no best plan");
        }
    }

    /** What was told of the mill, and what stands there: the logs and the stock. */
    private static final class Yard {
        private final int[] logsLeft = new int[CLASSES];
        private final int[] centsALog = new int[CLASSES];
        private final int[] classOf = new int[MAX_PATTERNS];
        private final int[] minutesALog = new int[MAX_PATTERNS];
        private final int[][] boardsALog = new int[MAX_PATTERNS][PRODUCTS];
        private final int[] least = new int[PRODUCTS];
        private final int[] most = new int[PRODUCTS];
        private final int[] worth = new int[PRODUCTS];
        private final int[] stock = new int[PRODUCTS];
        // never above MAX_PATTERNS, so it bounds every index of a pattern
        private int patterns;
        private int minutesADay = FIRST_DAY_MINUTES;
        private int change;

        private int boundOfGain() {
            int bound = 0;
            for (int product = 0; product < PRODUCTS; product++) {
                bound += worth[product] * most[product];
            }
            return bound;
        }

        private int minutesOf(int[] counts) {
            int minutes = 0;
            for (int pattern = 0; pattern < patterns; pattern++) {
                minutes += counts[pattern] * minutesALog[pattern];
            }
            return minutes + patternsUsedIn(counts) * change;
        }

        private int patternsUsedIn(int[] counts) {
            int inUse = 0;
            for (int pattern = 0; pattern < patterns; pattern++) {
                if (counts[pattern] > 0) {
                    inUse++;
                }
            }
            return inUse;
        }

        private int madeBy(int[] counts, int product) {
            int boards = stock[product];
            for (int pattern = 0; pattern < patterns; pattern++) {
                boards += counts[pattern] * boardsALog[pattern][product];
            }
            return boards;
        }

        private void doPlan(int[] counts) {
            for (int product = 0; product < PRODUCTS; product++) {
                int boards = madeBy(counts, product);
                stock[product] = boards - Math.min(boards, most[product]);
            }
            for (int pattern = 0; pattern < patterns; pattern++) {
                logsLeft[classOf[pattern]] -= counts[pattern];
            }
        }
    }

    /** One search through the plans of a yard; its rows are used again by the next one. */
    private static final class Search {
        private final Yard yard;
        // the plan as far as it is told, with the sums that go with it, so that
        // a log more is an addition and not a new count of the whole plan
        private final int[] counts = new int[MAX_PATTERNS];
        private final int[] logsFree = new int[CLASSES];
        private final int[] madeSoFar = new int[PRODUCTS];
        private int minutesFree;
        private int centsSoFar;
        // the orders of this search, one of them left out for its cost
        private final int[] least = new int[PRODUCTS];
        private final int[] most = new int[PRODUCTS];
        private final int[] worth = new int[PRODUCTS];
        private int stepsAllowed;
        private int steps;
        private boolean spent;
        private boolean found;
        private int bestGain;
        private final int[] bestCounts = new int[MAX_PATTERNS];

        private Search(Yard yard) {
            this.yard = yard;
        }

        private void goThroughPlans(int allowed, int orderLeftOut) {
            startWithEmptyPlan();
            takeOrders(orderLeftOut);
            stepsAllowed = allowed;
            steps = 0;
            spent = false;
            found = false;
            tellPatternsFrom(0);
        }

        private void startWithEmptyPlan() {
            for (int pattern = 0; pattern < MAX_PATTERNS; pattern++) {
                counts[pattern] = 0;
            }
            for (int cls = 0; cls < CLASSES; cls++) {
                logsFree[cls] = yard.logsLeft[cls];
            }
            for (int product = 0; product < PRODUCTS; product++) {
                madeSoFar[product] = yard.stock[product];
            }
            minutesFree = yard.minutesADay;
            centsSoFar = 0;
        }

        private void takeOrders(int orderLeftOut) {
            for (int product = 0; product < PRODUCTS; product++) {
                boolean kept = product != orderLeftOut;
                least[product] = kept ? yard.least[product] : 0;
                most[product] = kept ? yard.most[product] : 0;
                worth[product] = kept ? yard.worth[product] : 0;
            }
        }

        // the depth of the recursion is the pattern's number, six at most
        private void tellPatternsFrom(int pattern) {
            if (pattern >= yard.patterns || pattern >= MAX_PATTERNS) {
                lookAtPlan();
                return;
            }
            takeStep(pattern);
            for (int logs = 1; logs <= MAX_LOGS_A_PATTERN && !spent; logs++) {
                if (!oneLogMoreFits(pattern)) {
                    break;
                }
                addLog(pattern);
                takeStep(pattern);
            }
            takeLogsBack(pattern);
        }

        private void takeStep(int pattern) {
            if (steps >= stepsAllowed) {
                spent = true;
                return;
            }
            steps++;
            tellPatternsFrom(pattern + 1);
        }

        private boolean oneLogMoreFits(int pattern) {
            return logsFree[yard.classOf[pattern]] > 0
                    && minutesOfNextLog(pattern) <= minutesFree;
        }

        // the first log of a pattern brings the change of blades with it
        private int minutesOfNextLog(int pattern) {
            int minutes = yard.minutesALog[pattern];
            return counts[pattern] == 0 ? minutes + yard.change : minutes;
        }

        private void addLog(int pattern) {
            int cls = yard.classOf[pattern];
            minutesFree -= minutesOfNextLog(pattern);
            logsFree[cls]--;
            centsSoFar += yard.centsALog[cls];
            counts[pattern]++;
            for (int product = 0; product < PRODUCTS; product++) {
                madeSoFar[product] += yard.boardsALog[pattern][product];
            }
        }

        private void takeLogsBack(int pattern) {
            int logs = counts[pattern];
            if (logs == 0) {
                return;
            }
            int cls = yard.classOf[pattern];
            minutesFree += logs * yard.minutesALog[pattern] + yard.change;
            logsFree[cls] += logs;
            centsSoFar -= logs * yard.centsALog[cls];
            counts[pattern] = 0;
            for (int product = 0; product < PRODUCTS; product++) {
                madeSoFar[product] -= logs * yard.boardsALog[pattern][product];
            }
        }

        private void lookAtPlan() {
            if (!fillsOrders()) {
                return;
            }
            int gain = gainOfPlan();
            // of several plans with the same gain the first one stays
            if (!found || gain > bestGain) {
                found = true;
                bestGain = gain;
                System.arraycopy(counts, 0, bestCounts, 0, MAX_PATTERNS);
            }
        }

        private boolean fillsOrders() {
            for (int product = 0; product < PRODUCTS; product++) {
                if (madeSoFar[product] < least[product]) {
                    return false;
                }
            }
            return true;
        }

        private int gainOfPlan() {
            int gain = -centsSoFar;
            for (int product = 0; product < PRODUCTS; product++) {
                gain += worth[product] * Math.min(madeSoFar[product], most[product]);
            }
            return gain;
        }
    }
}

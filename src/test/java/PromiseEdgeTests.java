// The boundary cases of the promises, sentence by sentence: each method stands for one
// sentence of the document (which its heading names), with the last value on the one side
// of the boundary and the first one on the other.
public final class PromiseEdgeTests extends Checks {
    private static void newObjectHasNothing() {
        under("Promise 1, nothing told yet");
        compare("NONE", "-1", Integer.toString(DayCutPlans.NONE));
        DayCutPlans x = new DayCutPlans();
        nothingIsSearched("new", x);
        refused("used(0)", INDEX, () -> x.used(0));
        refusedDeed("gives(0, 0, 0)", INDEX, () -> x.gives(0, 0, 0));
        millIs("new", x, 0, 0, 0, 0, 0, 0);
        dueInTurn("cost, by no step", new int[4], product -> x.cost(product, 0));
        nothingIsSearched("new, but for its costs", x);
        due("the first pattern", 0, () -> x.pattern(0, 1));
    }

    private static void classesOfLogs() {
        under("Promise 2, no such class");
        DayCutPlans x = new DayCutPlans();
        for (int cls = 0; cls < 4; cls++) {
            int told = cls;
            taken("logs(" + cls + ", 1, 1)", () -> x.logs(told, 1, 1));
        }
        for (int cls : new int[] {-1, 4, LOW, HIGH}) {
            refusedDeed("logs(" + cls + ", 1, 1)", INDEX, () -> x.logs(cls, 1, 1));
        }
    }

    private static void numberOfLogs() {
        under("Promise 2, logs are not 0 .. 1000");
        for (int logs : new int[] {-1, 1001, LOW, HIGH}) {
            DayCutPlans x = new DayCutPlans();
            refusedDeed("logs(0, " + logs + ", 0)", ARGUMENT, () -> x.logs(0, logs, 0));
        }
        for (int logs : new int[] {0, 1, 999, 1000}) {
            DayCutPlans x = Mills.onePattern(1, 0);
            taken("logs(0, " + logs + ", 0)", () -> x.logs(0, logs, 0));
            x.order(0, 0, 1000, 1);
            for (int day = 0; day < 84; day++) {
                x.run(ALL);
                x.saw();
            }
            due("earned when all " + logs + " logs are sawn", logs, () -> x.mill(1));
        }
    }

    private static void centsOfLogs() {
        under("Promise 2, cents not 0 .. 100000");
        for (int cents : new int[] {-1, 100001, LOW, HIGH}) {
            DayCutPlans x = new DayCutPlans();
            refusedDeed("logs(0, 0, " + cents + ")", ARGUMENT, () -> x.logs(0, 0, cents));
        }
        for (int cents : new int[] {0, 1, 99999, 100000}) {
            DayCutPlans x = Mills.onePattern(1, 7);
            taken("logs(0, 1, " + cents + ")", () -> x.logs(0, 1, cents));
            x.order(0, 1, 1, 0);
            x.run(ALL);
            due("the log is paid", -cents, () -> x.best(0));
        }
    }

    private static void classesOfPatterns() {
        under("Promise 3, no such class");
        DayCutPlans x = new DayCutPlans();
        for (int cls : new int[] {-1, 4, LOW, HIGH}) {
            refused("pattern(" + cls + ", 1)", INDEX, () -> x.pattern(cls, 1));
        }
        for (int cls = 0; cls < 4; cls++) {
            int told = cls;
            due("pattern(" + cls + ", 1)", cls, () -> x.pattern(told, 1));
            x.gives(cls, cls, 1);
            x.order(cls, 0, 1000, 1);
            x.logs(cls, cls + 1, 0);
        }
        x.run(ALL);
        usedIs("each has the logs of its class", x, 1, 2, 3, 4);
    }

    private static void minutesOfPatterns() {
        under("Promise 3, minutes are not 1 .. 480");
        DayCutPlans x = new DayCutPlans();
        for (int minutes : new int[] {0, -1, 481, LOW, HIGH}) {
            refused("pattern(0, " + minutes + ")", ARGUMENT, () -> x.pattern(0, minutes));
        }
        for (int minutes : new int[] {1, 2, 479, 480}) {
            DayCutPlans y = new DayCutPlans();
            due("pattern(0, " + minutes + ")", 0, () -> y.pattern(0, minutes));
            y.logs(0, 1, 0);
            y.gives(0, 0, 1);
            y.order(0, 1, 1, 0);
            runIs("in its minutes", 0, y, () -> y.hours(minutes, 0));
            due("its minutes", minutes, () -> y.best(1));
            runIs("in one less", 1, y, () -> y.hours(minutes - 1, 0));
        }
    }

    private static void sixPatternsAndOneMore() {
        under("Promise 3, there are 6");
        DayCutPlans x = new DayCutPlans();
        for (int number = 0; number < 6; number++) {
            int told = number;
            due("pattern " + number, told, () -> x.pattern(told % 4, told + 1));
        }
        refused("a seventh", STATE, () -> x.pattern(0, 1));
        refused("a seventh, asked again", STATE, () -> x.pattern(3, 480));
        refused("a seventh of no class", INDEX, () -> x.pattern(4, 1));
        refused("a seventh of no minutes", ARGUMENT, () -> x.pattern(0, 0));
        for (int number = 0; number < 6; number++) {
            x.gives(number, number % 4, 1);
            x.logs(number % 4, number < 4 ? 1 : 2, 0);
            x.order(number % 4, 0, 1000, 1);
        }
        due("run", 0, () -> x.run(ALL));
        // the patterns 4 and 5 make what 0 and 1 make, and are found first
        usedIs("six", x, 0, 0, 1, 1, 2, 2);
        refused("used(6)", INDEX, () -> x.used(6));
        bestIs("six", x, 6, 3 + 4 + 2 * 5 + 2 * 6, 4);
        due("made(1)", 2, () -> x.made(1));
        due("saw", 6, x::saw);
        x.run(ALL);
        due("no log is left: a step each", 6, () -> x.search(0));
    }

    private static void patternsThatGive() {
        under("Promise 4, no such pattern");
        DayCutPlans x = new DayCutPlans();
        for (int number = 0; number < 6; number++) {
            int told = number;
            refusedDeed("gives(" + number + ", 0, 1) too early", INDEX, () -> x.gives(told, 0, 1));
            x.pattern(0, 1);
            taken("gives(" + number + ", 0, 1)", () -> x.gives(told, 0, 1));
        }
        for (int pattern : new int[] {DayCutPlans.NONE, 6, LOW, HIGH}) {
            refusedDeed("gives(" + pattern + ", 0, 1)", INDEX, () -> x.gives(pattern, 0, 1));
        }
    }

    private static void productsThatAreGiven() {
        under("Promise 4, no such product");
        DayCutPlans x = Mills.onePattern(1, 0);
        for (int product = 0; product < 4; product++) {
            int told = product;
            taken("gives(0, " + product + ", ..)", () -> x.gives(0, told, oddOf(told)));
            x.order(product, oddOf(product), 1000, 0);
        }
        for (int product : new int[] {-1, 4, LOW, HIGH}) {
            refusedDeed("gives(0, " + product + ", 1)", INDEX, () -> x.gives(0, product, 1));
        }
        x.run(ALL);
        madeIs("each as it was given", x, 1, 3, 5, 7);
    }

    /** A number that no other product has. */
    private static int oddOf(int product) {
        return 2 * product + 1;
    }

    private static void boardsThatAreGiven() {
        under("Promise 4, boards are not 0 .. 9");
        DayCutPlans x = Mills.onePattern(1, 0);
        for (int boards : new int[] {-1, 10, LOW, HIGH}) {
            refusedDeed("gives(0, 1, " + boards + ")", ARGUMENT, () -> x.gives(0, 1, boards));
        }
        x.order(0, 1, 1, 0);
        for (int boards : new int[] {9, 8, 1, 0}) {
            taken("gives(0, 1, " + boards + ")", () -> x.gives(0, 1, boards));
            x.run(ALL);
            due("made(1)", boards, () -> x.made(1));
        }
    }

    private static void productsThatAreOrdered() {
        under("Promise 5, no such product");
        DayCutPlans x = new DayCutPlans();
        for (int product = 0; product < 4; product++) {
            int told = product;
            taken("order(" + product + ", 0, 1, ..)", () -> x.order(told, 0, 1, oddOf(told)));
        }
        for (int product : new int[] {-1, 4, LOW, HIGH}) {
            refusedDeed("order(" + product + ", 0, 1, 1)", INDEX, () -> x.order(product, 0, 1, 1));
        }
        x.run(0);
        due("each has an order of its own", 1 + 3 + 5 + 7, () -> x.search(3));
    }

    /** A mill that has 972 boards of product 0 in stock, and logs that give 9 more each at a cent. */
    private static DayCutPlans millWithStock() {
        DayCutPlans x = new DayCutPlans();
        x.logs(0, 1000, 1);
        x.pattern(0, 1);
        x.gives(0, 0, 9);
        x.gives(0, 1, 1);
        x.order(1, 12, 12, 0);
        for (int day = 0; day < 9; day++) {
            x.run(ALL);
            x.saw();
        }
        x.order(1, 0, 0, 0);
        return x;
    }

    private static void leastOfOrders() {
        under("Promise 5, least is not 0 .. 1000");
        DayCutPlans x = millWithStock();
        for (int least : new int[] {-1, 1001, LOW, HIGH}) {
            refusedDeed("order(0, " + least + ", 1000, 0)", ARGUMENT, () -> x.order(0, least, 1000, 0));
            refusedDeed("order(0, " + least + ", " + least + ", 0)", ARGUMENT,
                    () -> x.order(0, least, least, 0));
        }
        int[][] leastAndLogs = {{0, 0}, {1, 0}, {972, 0}, {973, 1}, {999, 3}, {1000, 4}};
        for (int[] row : leastAndLogs) {
            taken("order(0, " + row[0] + ", 1000, 0)", () -> x.order(0, row[0], 1000, 0));
            due("run", 0, () -> x.run(ALL));
            usedIs("logs for " + row[0], x, row[1]);
        }
    }

    private static void mostOfOrders() {
        under("Promise 5, most not least .. 1000");
        DayCutPlans x = millWithStock();
        for (int least : new int[] {0, 1, 500, 1000}) {
            taken("order(0, least, least, 1), least " + least, () -> x.order(0, least, least, 1));
            taken("order(0, least, 1000, 1), least " + least, () -> x.order(0, least, 1000, 1));
            for (int most : new int[] {least - 1, 1001, LOW, HIGH}) {
                refusedDeed("order(0, " + least + ", " + most + ", 1)", ARGUMENT,
                        () -> x.order(0, least, most, 1));
            }
        }
        int[][] mostAndGain = {{0, 0}, {1, 1000}, {999, 999000 - 3}, {1000, 1000000 - 4}};
        for (int[] row : mostAndGain) {
            runIs("run with most " + row[0], 0, x, () -> x.order(0, 0, row[0], 1000));
            due("its gain", row[1], () -> x.best(0));
        }
        due("1000 of 1008 are sold", 999996, x::saw);
        due("8 are left", 8, () -> x.mill(2));
    }

    private static void worthOfOrders() {
        under("Promise 5, worth not 0 .. 1000");
        DayCutPlans x = Mills.onePattern(1, 0);
        for (int worth : new int[] {-1, 1001, LOW, HIGH}) {
            refusedDeed("order(0, 0, 1, " + worth + ")", ARGUMENT, () -> x.order(0, 0, 1, worth));
        }
        for (int worth : new int[] {0, 1, 999, 1000}) {
            taken("order(0, 1, 1, " + worth + ")", () -> x.order(0, 1, 1, worth));
            x.run(ALL);
            due("gain", worth, () -> x.best(0));
            due("bound", worth, () -> x.search(3));
        }
    }

    private static void minutesOfTheDay() {
        under("Promise 6, minutes are not 0 .. 1440");
        DayCutPlans x = new DayCutPlans();
        for (int minutes : new int[] {-1, 1441, LOW, HIGH}) {
            refusedDeed("hours(" + minutes + ", 0)", ARGUMENT, () -> x.hours(minutes, 0));
        }
        x.logs(0, 12, 0);
        x.pattern(0, 480);
        x.gives(0, 0, 1);
        x.order(0, 0, 1000, 1);
        int[][] minutesAndLogs = {{0, 0}, {1, 0}, {479, 0}, {480, 1}, {1439, 2}, {1440, 3}};
        for (int[] row : minutesAndLogs) {
            taken("hours(" + row[0] + ", 0)", () -> x.hours(row[0], 0));
            x.run(ALL);
            usedIs(row[0] + " minutes", x, row[1]);
        }
    }

    private static void minutesOfTheChange() {
        under("Promise 6, change is not 0 .. 1440");
        DayCutPlans x = Mills.onePattern(12, 0);
        for (int change : new int[] {-1, 1441, LOW, HIGH}) {
            refusedDeed("hours(1, " + change + ")", ARGUMENT, () -> x.hours(1, change));
        }
        x.order(0, 0, 1000, 1);
        int[][] changeAndLogs = {{0, 12}, {1, 12}, {1428, 12}, {1429, 11}, {1439, 1}, {1440, 0}};
        for (int[] row : changeAndLogs) {
            taken("hours(1440, " + row[0] + ")", () -> x.hours(1440, row[0]));
            x.run(ALL);
            usedIs("change " + row[0], x, row[1]);
        }
        runIs("a change that is longer than the day", 0, x, () -> x.hours(0, 1440));
        usedIs("a change that is longer than the day", x, 0);
    }

    private static void stepsOfRun() {
        under("Promise 7, steps are not 0 .. 20000");
        DayCutPlans x = Mills.nineSteps();
        for (int steps : new int[] {-1, 20001, LOW, HIGH}) {
            refused("run(" + steps + ")", ARGUMENT, () -> x.run(steps));
        }
        due("run(0)", 2, () -> x.run(0));
        due("run(1)", 2, () -> x.run(1));
        due("run(19999)", 0, () -> x.run(19999));
        due("run(20000)", 0, () -> x.run(20000));
        due("steps", 9, () -> x.search(0));
    }

    /** As many patterns as classes are named; pattern 0 and 1 give two boards, the others one. */
    private static DayCutPlans wideMill(int[] logs, int[] classes) {
        DayCutPlans x = new DayCutPlans();
        for (int cls = 0; cls < 4; cls++) {
            x.logs(cls, logs[cls], 0);
        }
        for (int pattern = 0; pattern < classes.length; pattern++) {
            x.pattern(classes[pattern], 1);
            x.gives(pattern, 0, pattern < 2 ? 2 : 1);
        }
        x.order(0, 0, 1000, 1);
        return x;
    }

    private static void searchOf20000Steps() {
        under("Promise 7, a search of 20000 steps, and of one more");
        DayCutPlans x = wideMill(new int[] {7, 6, 7, 9}, new int[] {0, 1, 1, 2, 3});
        due("run(20000) of 20000", 0, () -> x.run(20000));
        searchIs("all steps", x, 20000, 1, 1, 1000);
        usedIs("the last plan is best", x, 7, 6, 0, 7, 9);
        bestIs("the last plan is best", x, 42, 29, 4);
        due("run(19999) of 20000", 2, () -> x.run(19999));
        searchIs("a step too few", x, 19999, 0, 1, 1000);
        bestIs("the last plan is not found", x, 41);
        due("cost by all steps", 42, () -> x.cost(0, 20000));

        DayCutPlans y = wideMill(new int[] {8, 6, 0, 12}, new int[] {0, 1, 3, 0, 0});
        due("run(20000) of 20001", 2, () -> y.run(20000));
        searchIs("a step too few", y, 20000, 0, 1, 1000);
        bestIs("the last plan is not found", y, 39, 26, 4);
        usedIs("of those with a board less the first", y, 7, 6, 12, 0, 1);
    }

    private static void runAnswersOfTheLatestSearch() {
        under("Promise 7, 0 if there is a BEST plan, 1 if none FILLS, 2 if SPENT");
        DayCutPlans x = Mills.nineSteps();
        due("by all steps", 0, () -> x.run(9));
        due("spent with one", 2, () -> x.run(8));
        due("spent without one", 2, () -> x.run(1));
        due("by all steps again", 0, () -> x.run(9));
        x.order(0, 2, 2, 1);
        due("exactly what can be made", 0, () -> x.run(9));
        x.order(0, 3, 3, 1);
        due("a board more", 1, () -> x.run(9));
        due("spent before none was found", 2, () -> x.run(8));
    }

    private static void whatOfSearch() {
        under("Promise 8, no such what");
        DayCutPlans x = Mills.nineSteps();
        int[] beyond = {-1, 4, LOW, HIGH};
        for (int what : beyond) {
            refused("search(" + what + ") of no search", INDEX, () -> x.search(what));
        }
        x.run(9);
        for (int what : beyond) {
            refused("search(" + what + ")", INDEX, () -> x.search(what));
        }
        searchIs("0 .. 3", x, 9, 1, 1, 11000);
    }

    /** Told again as it was told before: that ends the search too. */
    private static void endsTheSearch(String what, DayCutPlans x, Deed told) {
        due("run before " + what, 0, () -> x.run(ALL));
        due("there is one", 1, () -> x.search(2));
        told.go();
        nothingIsSearched("after " + what, x);
        refused("used(0) after " + what, STATE, () -> x.used(0));
    }

    private static void whateverIsToldEndsTheSearch() {
        under("Promises 8 to 12, there was none since something was told");
        DayCutPlans x = Mills.nineSteps();
        nothingIsSearched("before the first run", x);
        endsTheSearch("logs(0, 2, 0)", x, () -> x.logs(0, 2, 0));
        endsTheSearch("gives(0, 0, 1)", x, () -> x.gives(0, 0, 1));
        endsTheSearch("order(0, 0, 1000, 10)", x, () -> x.order(0, 0, 1000, 10));
        endsTheSearch("hours(480, 0)", x, () -> x.hours(480, 0));
        endsTheSearch("logs(3, 0, 0)", x, () -> x.logs(3, 0, 0));
        endsTheSearch("pattern(2, 1)", x, () -> x.pattern(2, 1));
        due("run", 2, () -> x.run(0));
        x.hours(480, 0);
        nothingIsSearched("told after a spent search", x);
        x.run(ALL);
        x.saw();
        x.hours(480, 0);
        nothingIsSearched("told after sawing", x);
    }

    private static void askingEndsNoSearch() {
        under("Promises 8 to 14, what only asks changes nothing");
        DayCutPlans x = Mills.nineSteps();
        x.run(6);
        for (int again = 0; again < 2; again++) {
            searchIs("asked", x, 6, 0, 1, 11000);
            bestIs("asked", x, 11, 2, 2);
            usedIs("asked", x, 1, 1);
            millIs("asked", x, 0, 0, 0, 0, 0, 0);
            due("made(0)", 1, () -> x.made(0));
            due("cost(0, 9)", 20, () -> x.cost(0, 9));
            refused("cost(0, 1)", STATE, () -> x.cost(0, 1));
        }
        due("saw", 11, x::saw);
    }

    private static void patternsThatAreUsed() {
        under("Promise 9, no such pattern, no BEST plan");
        DayCutPlans x = new DayCutPlans();
        for (int number = 0; number < 6; number++) {
            int told = number;
            x.run(ALL);
            refused("used(" + number + ") of a BEST plan, too early", INDEX, () -> x.used(told));
            x.pattern(0, 1);
            refused("used(" + number + ") before a search", STATE, () -> x.used(told));
            refused("used(" + (number + 1) + ") before a search", INDEX, () -> x.used(told + 1));
            x.run(ALL);
            due("used(" + number + ")", 0, () -> x.used(told));
        }
        for (int pattern : new int[] {DayCutPlans.NONE, 6, LOW, HIGH}) {
            refused("used(" + pattern + ")", INDEX, () -> x.used(pattern));
        }
    }

    private static void whatOfBest() {
        under("Promise 10, no such what, no BEST plan");
        DayCutPlans x = Mills.nineSteps();
        int[] beyond = {-1, 3, LOW, HIGH};
        for (int what : beyond) {
            refused("best(" + what + ") of no plan", INDEX, () -> x.best(what));
        }
        nothingIsBest("not searched", x);
        x.run(9);
        for (int what : beyond) {
            refused("best(" + what + ")", INDEX, () -> x.best(what));
        }
        bestIs("0 .. 2", x, 21, 3, 2);
    }

    private static void productsThatAreMade() {
        under("Promise 11, no such product, no BEST plan");
        DayCutPlans x = Mills.nineSteps();
        x.gives(0, 3, 9);
        int[] beyond = {-1, 4, LOW, HIGH};
        for (int product : beyond) {
            refused("made(" + product + ") of no plan", INDEX, () -> x.made(product));
        }
        nothingIsBest("not searched", x);
        x.run(9);
        for (int product : beyond) {
            refused("made(" + product + ")", INDEX, () -> x.made(product));
        }
        madeIs("0 .. 3", x, 2, 1, 0, 18);
    }

    private static void sawingWithoutPlan() {
        under("Promise 12, no BEST plan");
        DayCutPlans x = Mills.nineSteps();
        refused("before a search", STATE, x::saw);
        x.run(1);
        refused("spent without a plan", STATE, x::saw);
        x.order(3, 1, 1, 1);
        x.run(9);
        refused("none fills", STATE, x::saw);
        x.order(3, 0, 1, 1);
        refused("since something was told", STATE, x::saw);
        x.run(9);
        due("a plan", 21, x::saw);
        refused("twice", STATE, x::saw);
        millIs("one day alone", x, 1, 21, 0, 0, 0, 0);
        x.run(2);
        due("a plan of a spent search", 0, x::saw);
        millIs("two days", x, 2, 21, 0, 0, 0, 0);
    }

    private static void whatOfMill() {
        under("Promise 13, what is not 0 .. 5");
        DayCutPlans x = Mills.onePattern(1, 1);
        for (int product = 0; product < 4; product++) {
            x.gives(0, product, product + 2);
        }
        x.order(0, 1, 1, 10);
        x.run(ALL);
        x.saw();
        millIs("0 .. 5", x, 1, 9, 1, 3, 4, 5);
        for (int what : new int[] {-1, 6, LOW, HIGH}) {
            refused("mill(" + what + ")", INDEX, () -> x.mill(what));
        }
    }

    private static void productsOfCost() {
        under("Promise 14, no such product");
        DayCutPlans x = Mills.nineSteps();
        for (int product : new int[] {-1, 4, LOW, HIGH}) {
            refused("cost(" + product + ", 9)", INDEX, () -> x.cost(product, 9));
            refused("cost(" + product + ", -1)", INDEX, () -> x.cost(product, -1));
            refused("cost(" + product + ", 0), which has no plan", INDEX, () -> x.cost(product, 0));
        }
        dueInTurn("cost, by 9 steps", new int[] {20, 1, 0, 0}, product -> x.cost(product, 9));
    }

    private static void stepsOfCost() {
        under("Promise 14, steps are not 0 .. 20000");
        DayCutPlans x = Mills.nineSteps();
        for (int steps : new int[] {-1, 20001, LOW, HIGH}) {
            refused("cost(0, " + steps + ")", ARGUMENT, () -> x.cost(0, steps));
        }
        refused("cost(0, 0)", STATE, () -> x.cost(0, 0));
        due("cost(0, 19999)", 20, () -> x.cost(0, 19999));
        due("cost(0, 20000)", 20, () -> x.cost(0, 20000));
        x.order(3, 1, 1, 1);
        for (int steps : new int[] {-1, 20001, LOW, HIGH}) {
            refused("cost(0, " + steps + ") where none fills", ARGUMENT, () -> x.cost(0, steps));
        }
    }

    private static void costNeedsBothPlans() {
        under("Promise 14, one of both searches has no BEST plan");
        DayCutPlans x = Mills.nineSteps();
        x.order(0, 3, 3, 1);
        refused("none with it, one without it", STATE, () -> x.cost(0, 9));
        refused("none with it, none without another", STATE, () -> x.cost(1, 9));
        x.order(0, 2, 2, 1);
        due("one of each", 2, () -> x.cost(0, 9));
        refused("found without it alone, for want of steps", STATE, () -> x.cost(0, 7));
        due("a step more: its own plan has no log of pattern 1", 2 - 1, () -> x.cost(0, 8));

        DayCutPlans empty = new DayCutPlans();
        due("without patterns", 0, () -> empty.cost(3, 0));
        empty.order(3, 1, 1, 1);
        refused("the empty plan does not fill", STATE, () -> empty.cost(3, ALL));
    }

    private static void costKeepsWhatWasBest() {
        under("Promise 14, what was BEST stays so");
        DayCutPlans x = Mills.nineSteps();
        x.run(6);
        due("cost by more steps", 20, () -> x.cost(0, 9));
        due("cost by fewer steps", 0, () -> x.cost(0, 2));
        refused("cost by too few", STATE, () -> x.cost(0, 1));
        bestIs("as it was", x, 11, 2, 2);
        usedIs("as it was", x, 1, 1);
        searchIs("as it was", x, 6, 0, 1, 11000);
        due("saw", 11, x::saw);
        due("what is left of product 0", 10, () -> x.cost(0, 9));
        nothingIsBest("sawn, and nothing is BEST by a cost", x);
    }

    public static void main(String[] args) {
        newObjectHasNothing();
        classesOfLogs();
        numberOfLogs();
        centsOfLogs();
        classesOfPatterns();
        minutesOfPatterns();
        sixPatternsAndOneMore();
        patternsThatGive();
        productsThatAreGiven();
        boardsThatAreGiven();
        productsThatAreOrdered();
        leastOfOrders();
        mostOfOrders();
        worthOfOrders();
        minutesOfTheDay();
        minutesOfTheChange();
        stepsOfRun();
        searchOf20000Steps();
        runAnswersOfTheLatestSearch();
        whatOfSearch();
        whateverIsToldEndsTheSearch();
        askingEndsNoSearch();
        patternsThatAreUsed();
        whatOfBest();
        productsThatAreMade();
        sawingWithoutPlan();
        whatOfMill();
        productsOfCost();
        stepsOfCost();
        costNeedsBothPlans();
        costKeepsWhatWasBest();
        end();
    }
}

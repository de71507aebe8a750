// The boundary cases of the terms, sentence by sentence: each method stands for one
// sentence of the document (which its heading names), with the last value on the one side
// of the boundary and the first one on the other.
public final class TermsEdgeTests extends Checks {
    // ---- Terms: the first values

    private static void classesHaveNoLogsAtFirst() {
        under("Terms, LOGS (0 at first)");
        for (int cls = 0; cls < 4; cls++) {
            DayCutPlans x = new DayCutPlans();
            x.pattern(cls, 1);
            due("run without logs of class " + cls, 0, () -> x.run(ALL));
            searchIs("0 logs alone fit", x, 1, 1, 1, 0);
            usedIs("0 logs alone fit", x, 0);
        }
    }

    private static void patternsGiveNothingAtFirst() {
        under("Terms, GIVE of each PRODUCT (0 at first)");
        for (int product = 0; product < 4; product++) {
            int told = product;
            DayCutPlans x = new DayCutPlans();
            x.logs(0, 5, 0);
            x.pattern(0, 1);
            runIs("run with an order of " + product, 1, x, () -> x.order(told, 1, 1, 1));
            runIs("run when it is given", 0, x, () -> x.gives(0, told, 1));
            int[] made = new int[4];
            made[product] = 1;
            madeIs("of this product alone", x, made);
            x.gives(0, told, 0);
            runIs("run when a second pattern, told later, gives nothing yet", 1, x, () -> x.pattern(0, 1));
        }
    }

    private static void ordersAreNothingAtFirst() {
        under("Terms, LEAST, MOST and WORTH (0 at first)");
        DayCutPlans x = Mills.onePattern(1, 0);
        for (int product = 0; product < 4; product++) {
            x.gives(0, product, 9);
        }
        due("run without orders", 0, () -> x.run(ALL));
        due("their bound", 0, () -> x.search(3));
        bestIs("without orders", x, 0, 0, 0);
        runIs("run with one order", 0, x, () -> x.order(0, 9, 9, 5));
        bestIs("one order alone is worth something", x, 45, 1, 1);
        due("saw", 45, x::saw);
        millIs("nothing is sold without an order", x, 1, 45, 0, 9, 9, 9);
    }

    private static void stockIsNothingAtFirst() {
        under("Terms, STOCK of PRODUCTS is 0 at first");
        DayCutPlans x = new DayCutPlans();
        millIs("new", x, 0, 0, 0, 0, 0, 0);
        x.run(0);
        madeIs("by the empty plan", x, 0, 0, 0, 0);
    }

    private static void dayHas480MinutesAtFirst() {
        under("Terms, HOURS (480 minutes at first)");
        DayCutPlans x = new DayCutPlans();
        x.logs(0, 12, 0);
        x.pattern(0, 480);
        x.pattern(0, 1);
        due("run", 0, () -> x.run(ALL));
        // 13 plans without a log of pattern 0, one with it: 480 fit, 481 do not
        due("steps", 2 + 13 + 1, () -> x.search(0));
    }

    private static void changeIsNothingAtFirst() {
        under("Terms, CHANGE (0 at first)");
        DayCutPlans x = new DayCutPlans();
        x.logs(0, 2, 0);
        x.pattern(0, 240);
        x.pattern(0, 240);
        x.gives(0, 0, 1);
        x.gives(1, 1, 1);
        x.order(0, 1, 1, 1);
        x.order(1, 1, 1, 1);
        due("two patterns of 240 minutes", 0, () -> x.run(ALL));
        bestIs("both", x, 2, 480, 2);
    }

    // ---- Terms: plans

    private static void patternTakesTwelveLogsAtMost() {
        under("Terms, A PLAN tells of each PATTERN how many logs, 0 .. 12");
        for (int place = 0; place < 6; place++) {
            for (int logs : new int[] {0, 1, 11, 12, 13, 1000}) {
                DayCutPlans x = new DayCutPlans();
                for (int pattern = 0; pattern < 6; pattern++) {
                    x.pattern(pattern == place ? 0 : 1, 1);
                    x.gives(pattern, 0, 1);
                }
                x.logs(0, logs, 0);
                x.order(0, 0, 1000, 1);
                String when = logs + " logs for pattern " + place;
                int most = Math.min(logs, 12);
                due(when + ": run", 0, () -> x.run(ALL));
                int[] due = new int[6];
                due[place] = most;
                usedIs(when, x, due);
                due(when + ": steps", place + (most + 1) * (6 - place), () -> x.search(0));
            }
        }
    }

    private static void patternsOfOneClassShareItsLogs() {
        under("Terms, FITS: the logs of no CLASS are more than LOGS");
        DayCutPlans x = new DayCutPlans();
        x.logs(0, 3, 0);
        x.logs(1, 5, 0);
        x.pattern(0, 1);
        x.pattern(0, 1);
        x.gives(0, 0, 1);
        x.gives(1, 1, 1);
        x.order(0, 2, 2, 1);
        runIs("2 and 1 logs of 3", 0, x, () -> x.order(1, 1, 1, 1));
        usedIs("2 and 1", x, 2, 1);
        runIs("2 and 2 logs of 3", 1, x, () -> x.order(1, 2, 2, 1));
        runIs("2 and 2 logs of 4", 0, x, () -> x.logs(0, 4, 0));
        runIs("2 and 2 logs of none", 1, x, () -> x.logs(0, 0, 0));
    }

    private static void minutesAndChangesFitTheDay() {
        under("Terms, FITS: minutes and CHANGE of each PATTERN used not above HOURS");
        DayCutPlans x = new DayCutPlans();
        x.logs(0, 2, 0);
        x.logs(1, 1, 0);
        x.pattern(0, 100);
        x.pattern(1, 50);
        x.gives(0, 0, 1);
        x.gives(1, 1, 1);
        x.order(0, 2, 2, 1);
        x.order(1, 1, 1, 1);
        runIs("250 minutes in 250", 0, x, () -> x.hours(250, 0));
        bestIs("250 minutes", x, 3, 250, 2);
        runIs("250 minutes in 249", 1, x, () -> x.hours(249, 0));
        runIs("two changes, not three, of 7", 0, x, () -> x.hours(264, 7));
        bestIs("with two changes", x, 3, 264, 2);
        runIs("a minute less", 1, x, () -> x.hours(263, 7));
        x.order(1, 0, 0, 0);
        runIs("a pattern that is not used takes no change", 0, x, () -> x.hours(207, 7));
        bestIs("with one change", x, 2, 207, 1);
        runIs("a minute less than that", 1, x, () -> x.hours(206, 7));
        runIs("a pattern without logs spares no change either", 1, x, () -> x.logs(1, 0, 0));
        runIs("nor does it take one", 0, x, () -> x.hours(207, 7));
        x.order(0, 0, 0, 0);
        runIs("a plan of no logs takes no change", 0, x, () -> x.hours(0, 7));
        bestIs("with no change", x, 0, 0, 0);
    }

    private static void everyProductHasItsLeast() {
        under("Terms, FILLS: MADE is LEAST at least for all PRODUCTS");
        for (int product = 0; product < 4; product++) {
            int told = product;
            DayCutPlans x = Mills.onePattern(2, 0);
            for (int other = 0; other < 4; other++) {
                x.gives(0, other, 3);
                x.order(other, 6, 6, 0);
            }
            due("6 of 6 of all", 0, () -> x.run(ALL));
            runIs("7 of 6 of " + product, 1, x, () -> x.order(told, 7, 7, 0));
            runIs("5 of 6 of " + product, 0, x, () -> x.order(told, 5, 5, 0));
            due("made is what the logs give", 6, () -> x.made(told));
        }
    }

    private static void stockFillsToo() {
        under("Terms, MADE is STOCK and what all logs give");
        DayCutPlans x = Mills.onePattern(2, 0);
        x.gives(0, 1, 3);
        x.order(0, 1, 1, 0);
        x.run(ALL);
        x.saw();
        millIs("three boards of 1 are left", x, 1, 0, 0, 3, 0, 0);
        x.order(0, 0, 0, 0);
        runIs("the stock alone", 0, x, () -> x.order(1, 3, 3, 1));
        usedIs("the stock alone", x, 0);
        runIs("a board more takes a log", 0, x, () -> x.order(1, 4, 4, 1));
        usedIs("a board more", x, 1);
        runIs("the stock and the last log", 0, x, () -> x.order(1, 6, 6, 1));
        runIs("a board more than both", 1, x, () -> x.order(1, 7, 7, 1));
    }

    private static void boardsAboveMostAreWorthNothing() {
        under("Terms, GAIN: the lesser of MADE and MOST");
        DayCutPlans x = Mills.onePattern(2, 4);
        x.gives(0, 1, 3);
        // product 0 makes both logs used, so that six boards of product 1 are made
        x.order(0, 2, 2, 0);
        int[][] mostAndGain = {{0, -8}, {5, 42}, {6, 52}, {7, 52}};
        for (int[] row : mostAndGain) {
            runIs("run with most " + row[0], 0, x, () -> x.order(1, 0, row[0], 10));
            due("made", 6, () -> x.made(1));
            due("its gain", row[1], () -> x.best(0));
        }
    }

    private static void everyLogIsPaid() {
        under("Terms, GAIN: less CENTS of all logs");
        DayCutPlans x = Mills.nineSteps();
        x.logs(0, 2, 4);
        x.logs(1, 1, 1);
        due("run", 0, () -> x.run(ALL));
        bestIs("a log of pattern 1 brings what it takes", x, 20 - 8, 2, 1);
        usedIs("it stays", x, 2, 0);
        runIs("run with an order of it", 0, x, () -> x.order(1, 1, 1, 1));
        bestIs("all three logs are paid", x, 20 - 8 + 1 - 1, 3, 2);
        runIs("run with a dearer log", 0, x, () -> x.logs(1, 1, 100000));
        bestIs("it is paid, as it is due", x, 20 - 8 + 1 - 100000, 3, 2);
        runIs("run without the order", 0, x, () -> x.order(1, 0, 1, 1));
        bestIs("it is not paid, as it stays", x, 20 - 8, 2, 1);
    }

    // ---- Terms: the search

    private static void searchIsSpentAtOneStepMore() {
        under("Terms, each count that FITS is a STEP; at one more the search is SPENT");
        // 0-, 00, 01, 1-, 10, 11, 2-, 20, 21: a plan is looked at behind the last pattern alone
        int[] gainAfter = {0, 0, 0, 1, 1, 10, 11, 11, 20, 21};
        int[] usedOf0 = {0, 0, 0, 0, 0, 1, 1, 1, 2, 2};
        int[] usedOf1 = {0, 0, 0, 1, 1, 0, 1, 1, 0, 1};
        DayCutPlans x = Mills.nineSteps();
        for (int steps = 0; steps <= 9; steps++) {
            int allowed = steps;
            String when = "run(" + steps + ")";
            due(when, steps < 9 ? 2 : 0, () -> x.run(allowed));
            searchIs(when, x, steps, steps < 9 ? 0 : 1, steps < 2 ? 0 : 1, 11000);
            if (steps < 2) {
                nothingIsBest(when, x);
                refused(when + ": used(0)", STATE, () -> x.used(0));
            } else {
                bestIs(when, x, gainAfter[steps]);
                usedIs(when, x, usedOf0[steps], usedOf1[steps]);
            }
        }
        due("a step more than there are", 0, () -> x.run(10));
        searchIs("a step more than there are", x, 9, 1, 1);
    }

    private static void searchThatFillsNothingIsSpentToo() {
        under("Terms and promise 7, SPENT with none that FILLS");
        DayCutPlans x = Mills.nineSteps();
        x.order(2, 1, 1, 1);
        due("run(8)", 2, () -> x.run(8));
        searchIs("run(8)", x, 8, 0, 0);
        nothingIsBest("run(8)", x);
        due("run(9)", 1, () -> x.run(9));
        searchIs("run(9) is PROVED, though none FILLS", x, 9, 1, 0);
        nothingIsBest("run(9)", x);
    }

    private static void spentSearchForgetsNoPlanAndFindsNoLaterOne() {
        under("Terms, SPENT: the search ends");
        DayCutPlans x = Mills.nineSteps();
        // the plan 0 1 is the first that FILLS, at step 3; 1 1 is found at step 6
        x.order(1, 1, 1, 1);
        due("run(2)", 2, () -> x.run(2));
        searchIs("run(2)", x, 2, 0, 0);
        due("run(3)", 2, () -> x.run(3));
        usedIs("run(3)", x, 0, 1);
        due("run(5)", 2, () -> x.run(5));
        usedIs("run(5)", x, 0, 1);
        due("run(6)", 2, () -> x.run(6));
        usedIs("run(6)", x, 1, 1);
        due("run(0) after it", 2, () -> x.run(0));
        nothingIsBest("run(0) after it", x);
    }

    private static void planWithoutPatterns() {
        under("Terms, without patterns the empty plan is looked at, without a STEP");
        for (int steps : new int[] {0, 1, ALL}) {
            DayCutPlans x = new DayCutPlans();
            x.logs(0, 5, 5);
            due("run(" + steps + ")", 0, () -> x.run(steps));
            searchIs("it is proved and best", x, 0, 1, 1, 0);
            bestIs("it is empty", x, 0, 0, 0);
            refused("used(0)", INDEX, () -> x.used(0));
            due("saw", 0, x::saw);
            millIs("a day more", x, 1, 0, 0, 0, 0, 0);
            x.order(3, 1, 1, 1);
            due("it does not fill: run(" + steps + ")", 1, () -> x.run(steps));
            searchIs("it does not fill", x, 0, 1, 0, 1);
            nothingIsBest("it does not fill", x);
        }
    }

    private static void firstOfEqualPlansIsBest() {
        under("Terms, BEST: of several the first that was found");
        DayCutPlans x = Mills.onePattern(5, 9);
        runIs("a log that brings what it takes", 0, x, () -> x.order(0, 0, 1000, 9));
        usedIs("is not used", x, 0);
        runIs("two of them are due", 0, x, () -> x.order(0, 2, 1000, 9));
        usedIs("and no more are used", x, 2);
        runIs("a cent more", 0, x, () -> x.order(0, 2, 1000, 10));
        usedIs("all are used", x, 5);
        runIs("a cent less", 0, x, () -> x.order(0, 2, 1000, 8));
        usedIs("what is due alone", x, 2);
        due("at a loss", -2, () -> x.best(0));

        DayCutPlans pair = Mills.onePattern(1, 0);
        pair.pattern(0, 1);
        pair.gives(1, 0, 1);
        runIs("either of two patterns", 0, pair, () -> pair.order(0, 1, 1, 5));
        usedIs("the last pattern's plan is found first", pair, 0, 1);
        runIs("two boards by the first", 0, pair, () -> {
            pair.gives(0, 0, 2);
            pair.order(0, 1, 2, 5);
        });
        usedIs("a greater gain is best, though later", pair, 1, 0);
    }

    private static void boundIsReachedAndNeverPassed() {
        under("Terms, BOUND: no plan has more GAIN");
        DayCutPlans x = Mills.onePattern(1, 0);
        x.gives(0, 0, 9);
        runIs("most is made", 0, x, () -> x.order(0, 0, 9, 1000));
        searchIs("bound", x, 2, 1, 1, 9000);
        bestIs("the bound is reached", x, 9000);
        runIs("one less is made", 0, x, () -> x.order(0, 0, 10, 1000));
        searchIs("bound", x, 2, 1, 1, 10000);
        bestIs("the bound is not reached", x, 9000);
        for (int product = 0; product < 4; product++) {
            x.order(product, 0, 1000, 1000);
        }
        x.run(0);
        searchIs("the greatest bound, of a spent search too", x, 0, 0, 0, 4000000);
        for (int product = 0; product < 4; product++) {
            x.order(product, 0, product % 2 == 0 ? 1000 : 0, product % 2 == 0 ? 0 : 1000);
        }
        x.run(0);
        searchIs("the least bound: most or worth are 0", x, 0, 0, 0, 0);
    }

    // ---- Terms: sawn, cost

    private static void sawingTakesTheLastLog() {
        under("Terms, SAWN: LOGS become fewer");
        DayCutPlans x = Mills.onePattern(13, 0);
        x.order(0, 0, 1000, 1);
        x.run(ALL);
        due("twelve of 13", 12, x::saw);
        x.run(ALL);
        due("steps with one log", 2, () -> x.search(0));
        due("the last log", 1, x::saw);
        x.run(ALL);
        due("steps with none", 1, () -> x.search(0));
        due("no log", 0, x::saw);
        millIs("three days", x, 3, 13, 0, 0, 0, 0);
    }

    private static void sawingKeepsWhatIsNotSold() {
        under("Terms, SAWN: STOCK is MADE less what was sold");
        for (int most : new int[] {0, 1, 2, 3, 4}) {
            DayCutPlans x = Mills.onePattern(2, 0);
            x.gives(0, 3, 3);
            x.order(0, 1, 1, 0);
            x.order(3, 0, most, 0);
            x.run(ALL);
            x.saw();
            millIs("3 made, " + most + " at most", x, 1, 0, 0, 0, 0, Math.max(0, 3 - most));
        }
    }

    private static void nothingIsBestOnceSawn() {
        under("Terms, SAWN: nothing is BEST then");
        DayCutPlans x = Mills.nineSteps();
        x.run(ALL);
        due("saw", 21, x::saw);
        nothingIsBest("sawn", x);
        refused("sawn: used(0)", STATE, () -> x.used(0));
        due("there is no best plan", 0, () -> x.search(2));
        millIs("a day is sawn once", x, 1, 21, 0, 0, 0, 0);
        due("searched again", 0, () -> x.run(ALL));
        due("a day without logs", 0, x::saw);
        millIs("two days", x, 2, 21, 0, 0, 0, 0);
    }

    private static void earnedGoesFarBelowAndAboveZero() {
        under("Terms, EARNED grows by GAIN, by 512 calls");
        for (int worth : new int[] {0, 1000}) {
            DayCutPlans x = new DayCutPlans();
            x.pattern(0, 1);
            x.gives(0, 0, 9);
            x.order(0, 108, 108, worth);
            int cents = worth == 0 ? 100000 : 0;
            int gain = 108 * worth - 12 * cents;
            for (int year = 0; year < 3; year++) {
                x.logs(0, 1000, cents);
                for (int day = 0; day < 83; day++) {
                    x.run(ALL);
                    due("a day", gain, x::saw);
                }
                due("four logs are too few", 1, () -> x.run(ALL));
            }
            millIs("249 days", x, 249, 249 * gain);
            // 3 calls, 3 * (1 + 166 + 1) more and 2: the last three of 512
            due("mill(2)", 0, () -> x.mill(2));
            due("run", 1, () -> x.run(ALL));
            refused("the 512th call", STATE, x::saw);
        }
    }

    private static void costIsTheDifferenceOfBothSearches() {
        under("Terms, COST of an order");
        DayCutPlans x = Mills.nineSteps();
        due("all that product 0 brings", 20, () -> x.cost(0, ALL));
        due("all that product 1 brings", 1, () -> x.cost(1, ALL));
        due("an order that was not told", 0, () -> x.cost(2, ALL));
        due("an order that was not told", 0, () -> x.cost(3, ALL));
        x.logs(0, 2, 3);
        x.order(0, 2, 2, 1);
        due("LEAST is 0 without it: it brings less than its logs", 2 - 6, () -> x.cost(0, ALL));
        x.order(0, 1, 1, 0);
        due("WORTH 0, but LEAST is due", -3, () -> x.cost(0, ALL));
        x.order(0, 0, 0, 1000);
        due("MOST 0 brings nothing", 0, () -> x.cost(0, ALL));
    }

    private static void costByTheSameNumberOfSteps() {
        under("Terms, COST: both searched anew by the same number of steps");
        int[] costOf0 = {0, 0, 0, 0, 0, 9, 10, 10, 19, 20};
        DayCutPlans x = Mills.nineSteps();
        for (int steps = 0; steps <= 9; steps++) {
            int allowed = steps;
            if (steps < 2) {
                refused("cost(0, " + steps + ")", STATE, () -> x.cost(0, allowed));
            } else {
                due("cost(0, " + steps + ")", costOf0[steps], () -> x.cost(0, allowed));
            }
        }
        due("a step more than there are", 20, () -> x.cost(0, 10));
    }

    public static void main(String[] args) {
        classesHaveNoLogsAtFirst();
        patternsGiveNothingAtFirst();
        ordersAreNothingAtFirst();
        stockIsNothingAtFirst();
        dayHas480MinutesAtFirst();
        changeIsNothingAtFirst();
        patternTakesTwelveLogsAtMost();
        patternsOfOneClassShareItsLogs();
        minutesAndChangesFitTheDay();
        everyProductHasItsLeast();
        stockFillsToo();
        boardsAboveMostAreWorthNothing();
        everyLogIsPaid();
        searchIsSpentAtOneStepMore();
        searchThatFillsNothingIsSpentToo();
        spentSearchForgetsNoPlanAndFindsNoLaterOne();
        planWithoutPatterns();
        firstOfEqualPlansIsBest();
        boundIsReachedAndNeverPassed();
        sawingTakesTheLastLog();
        sawingKeepsWhatIsNotSold();
        nothingIsBestOnceSawn();
        earnedGoesFarBelowAndAboveZero();
        costIsTheDifferenceOfBothSearches();
        costByTheSameNumberOfSteps();
        end();
    }
}

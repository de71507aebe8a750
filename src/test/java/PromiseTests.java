// One method for each promise of the document: ordinary inputs, the edges, wrong inputs.
public final class PromiseTests extends Checks {
    /** Two patterns of two classes: pattern 0 makes product 0, pattern 1 makes product 1. */
    private static DayCutPlans smallMill() {
        DayCutPlans x = new DayCutPlans();
        x.logs(0, 3, 10);
        x.logs(1, 2, 5);
        x.pattern(0, 100);
        x.pattern(1, 50);
        x.gives(0, 0, 2);
        x.gives(1, 1, 3);
        x.order(0, 0, 100, 20);
        x.order(1, 0, 100, 7);
        return x;
    }

    /** The deed tells something, so that the search before it counts no more. */
    private static void forgetsSearch(String what, DayCutPlans x, Deed deed) {
        due("run before " + what, 0, () -> x.run(20000));
        deed.go();
        nothingIsSearched("after " + what, x);
    }

    /** The deed is refused, and the search before it stays as it was. */
    private static void keepsSearch(String what, String exception, DayCutPlans x, Deed deed) {
        x.run(20000);
        int gain = x.best(0);
        int steps = x.search(0);
        refusedDeed(what, exception, deed);
        due("best(0) after " + what, gain, () -> x.best(0));
        due("search(0) after " + what, steps, () -> x.search(0));
        due("run after " + what, 0, () -> x.run(20000));
        due("best(0) searched anew after " + what, gain, () -> x.best(0));
        due("search(0) searched anew after " + what, steps, () -> x.search(0));
    }

    private static void promise1NewObject() {
        DayCutPlans x = new DayCutPlans();
        nothingIsSearched("new", x);
        refused("used(0) without patterns", INDEX, () -> x.used(0));
        dueInTurn("mill of a new object", new int[6], x::mill);
        due("run(0) of the empty plan", 0, () -> x.run(0));
        due("its steps", 0, () -> x.search(0));
        due("it is proved", 1, () -> x.search(1));
        due("it is there", 1, () -> x.search(2));
        due("its bound", 0, () -> x.search(3));
        due("its gain", 0, () -> x.best(0));
        due("its minutes", 0, () -> x.best(1));
        due("its patterns", 0, () -> x.best(2));

        DayCutPlans none = new DayCutPlans();
        none.pattern(0, 1);
        due("run without logs", 0, () -> none.run(100));
        due("only 0 logs fit", 1, () -> none.search(0));

        DayCutPlans day = new DayCutPlans();
        day.logs(0, 12, 0);
        day.pattern(0, 120);
        day.gives(0, 0, 1);
        day.order(0, 0, 1000, 1);
        day.run(100);
        due("480 minutes take four logs of 120", 4, () -> day.used(0));
        due("no change is counted", 480, () -> day.best(1));
        due("a product without an order is worth nothing", 0, () -> day.made(1));

        DayCutPlans minute = new DayCutPlans();
        minute.logs(0, 2, 0);
        minute.pattern(0, 480);
        minute.pattern(0, 1);
        due("run of 481 minutes", 0, () -> minute.run(100));
        due("480 minutes have no room for one more: 0 0, 0 1, 0 2, 1 0", 6, () -> minute.search(0));
        compare("NONE", "-1", Integer.toString(DayCutPlans.NONE));
    }

    private static void promise2Logs() {
        DayCutPlans x = smallMill();
        x.run(20000);
        due("gain with 3 and 2 logs", 3 * (40 - 10) + 2 * (21 - 5), () -> x.best(0));
        x.logs(0, 1, 39);
        x.run(20000);
        due("gain with 1 log of class 0 at 39", 1 + 32, () -> x.best(0));
        x.logs(0, 1, 41);
        x.run(20000);
        due("a log dearer than its boards stays", 32, () -> x.best(0));
        x.logs(0, 1000, 100000);
        x.logs(0, 0, 0);
        x.run(20000);
        due("no logs, no use", 0, () -> x.used(0));

        DayCutPlans dear = smallMill();
        dear.logs(0, 1000, 100000);
        dear.order(0, 2, 2, 0);
        dear.run(20000);
        due("a gain below 0 may be the best", -100000 + 32, () -> dear.best(0));

        DayCutPlans y = smallMill();
        for (int cls : new int[] {-1, 4, LOW, HIGH}) {
            keepsSearch("logs(" + cls + ", 1, 1)", INDEX, y, () -> y.logs(cls, 1, 1));
            keepsSearch("logs(" + cls + ", -1, -1)", INDEX, y, () -> y.logs(cls, -1, -1));
        }
        for (int logs : new int[] {-1, 1001, LOW, HIGH}) {
            keepsSearch("logs(0, " + logs + ", 1)", ARGUMENT, y, () -> y.logs(0, logs, 1));
        }
        for (int cents : new int[] {-1, 100001, LOW, HIGH}) {
            keepsSearch("logs(0, 1, " + cents + ")", ARGUMENT, y, () -> y.logs(0, 1, cents));
        }
        for (int cls = 0; cls < 4; cls++) {
            int told = cls;
            forgetsSearch("logs(" + cls + ", 1, 1)", y, () -> y.logs(told, 1, 1));
        }
    }

    private static void promise3Pattern() {
        DayCutPlans x = new DayCutPlans();
        for (int cls : new int[] {-1, 4, LOW, HIGH}) {
            keepsSearch("pattern(" + cls + ", 1)", INDEX, x, () -> x.pattern(cls, 1));
            keepsSearch("pattern(" + cls + ", 0)", INDEX, x, () -> x.pattern(cls, 0));
        }
        for (int minutes : new int[] {0, -1, 481, LOW, HIGH}) {
            keepsSearch("pattern(0, " + minutes + ")", ARGUMENT, x, () -> x.pattern(0, minutes));
        }
        int[] classes = {3, 2, 1, 0, 3, 0};
        int[] minutes = {480, 1, 100, 7, 480, 1};
        for (int number = 0; number < 6; number++) {
            int told = number;
            forgetsSearch("pattern " + number, x, () ->
                    due("its number", told, () -> x.pattern(classes[told], minutes[told])));
        }
        keepsSearch("a seventh pattern", STATE, x, () -> x.pattern(0, 1));
        keepsSearch("a seventh pattern of no class", INDEX, x, () -> x.pattern(4, 1));
        keepsSearch("a seventh pattern of no minutes", ARGUMENT, x, () -> x.pattern(0, 0));

        DayCutPlans y = new DayCutPlans();
        y.logs(2, 5, 1);
        y.pattern(2, 480);
        y.gives(0, 3, 1);
        y.order(3, 0, 9, 9);
        y.run(100);
        due("a pattern of 480 minutes takes one log a day", 1, () -> y.used(0));
        due("a log of its class is paid", 8, () -> y.best(0));
    }

    private static void promise4Gives() {
        DayCutPlans x = smallMill();
        x.gives(0, 0, 9);
        x.gives(0, 3, 4);
        x.run(20000);
        due("made of product 0", 27, () -> x.made(0));
        due("made of product 3", 12, () -> x.made(3));
        x.gives(0, 0, 0);
        x.order(0, 0, 0, 0);
        x.run(20000);
        due("a pattern that gives nothing of worth stays", 0, () -> x.used(0));

        DayCutPlans y = smallMill();
        for (int pattern : new int[] {-1, 2, 5, 6, LOW, HIGH}) {
            keepsSearch("gives(" + pattern + ", 0, 1)", INDEX, y, () -> y.gives(pattern, 0, 1));
            keepsSearch("gives(" + pattern + ", 0, 10)", INDEX, y, () -> y.gives(pattern, 0, 10));
        }
        for (int product : new int[] {-1, 4, LOW, HIGH}) {
            keepsSearch("gives(0, " + product + ", 1)", INDEX, y, () -> y.gives(0, product, 1));
            keepsSearch("gives(0, " + product + ", -1)", INDEX, y, () -> y.gives(0, product, -1));
        }
        for (int boards : new int[] {-1, 10, LOW, HIGH}) {
            keepsSearch("gives(1, 1, " + boards + ")", ARGUMENT, y, () -> y.gives(1, 1, boards));
        }
        forgetsSearch("gives(1, 2, 0)", y, () -> y.gives(1, 2, 0));
        forgetsSearch("gives(1, 2, 9)", y, () -> y.gives(1, 2, 9));
    }

    private static void promise5Order() {
        DayCutPlans x = smallMill();
        x.order(0, 0, 3, 20);
        x.run(20000);
        due("boards above most are worth nothing", 2, () -> x.used(0));
        due("two logs, three boards sold", 60 - 20 + 32, () -> x.best(0));
        x.order(0, 5, 5, 0);
        x.run(20000);
        due("least makes the pattern used", 3, () -> x.used(0));
        due("at its cost", -30 + 32, () -> x.best(0));
        x.order(0, 6, 6, 0);
        due("exactly least", 0, () -> x.run(20000));
        x.order(0, 7, 7, 0);
        due("one more than can be made", 1, () -> x.run(20000));

        DayCutPlans y = smallMill();
        for (int product : new int[] {-1, 4, LOW, HIGH}) {
            keepsSearch("order(" + product + ", 0, 1, 1)", INDEX, y, () -> y.order(product, 0, 1, 1));
            keepsSearch("order(" + product + ", 2, 1, 1)", INDEX, y, () -> y.order(product, 2, 1, 1));
        }
        for (int least : new int[] {-1, 1001, LOW, HIGH}) {
            keepsSearch("order(0, " + least + ", 1000, 1)", ARGUMENT, y,
                    () -> y.order(0, least, 1000, 1));
            keepsSearch("order(0, " + least + ", " + least + ", 1)", ARGUMENT, y,
                    () -> y.order(0, least, least, 1));
        }
        for (int most : new int[] {4, 0, -1, 1001, LOW, HIGH}) {
            keepsSearch("order(0, 5, " + most + ", 1)", ARGUMENT, y, () -> y.order(0, 5, most, 1));
        }
        for (int worth : new int[] {-1, 1001, LOW, HIGH}) {
            keepsSearch("order(0, 0, 1, " + worth + ")", ARGUMENT, y, () -> y.order(0, 0, 1, worth));
        }
        forgetsSearch("order(3, 0, 0, 0)", y, () -> y.order(3, 0, 0, 0));
        forgetsSearch("order(3, 0, 1000, 1000)", y, () -> y.order(3, 0, 1000, 1000));
        forgetsSearch("order(3, 1000, 1000, 1000)", y, () -> y.order(3, 1000, 1000, 1000));
    }

    private static void promise6Hours() {
        DayCutPlans x = smallMill();
        x.hours(400, 0);
        x.run(20000);
        due("all logs in 400 minutes", 400, () -> x.best(1));
        x.hours(399, 0);
        x.run(20000);
        due("a log less in 399", 350, () -> x.best(1));
        x.hours(400, 50);
        x.run(20000);
        due("two changes, and a log of 100 less", 2, () -> x.used(0));
        due("the changes are counted", 400, () -> x.best(1));
        x.hours(399, 100);
        x.run(20000);
        due("one change alone", 299 / 100, () -> x.used(0));
        due("the other pattern is not used", 0, () -> x.used(1));
        due("only used patterns take the change", 300, () -> x.best(1));
        x.hours(0, 1440);
        due("a day without minutes", 0, () -> x.run(20000));
        due("only 0 logs fit", 2, () -> x.search(0));
        x.hours(1440, 0);
        x.run(20000);
        due("a long day takes all", 400, () -> x.best(1));

        DayCutPlans y = smallMill();
        for (int minutes : new int[] {-1, 1441, LOW, HIGH}) {
            keepsSearch("hours(" + minutes + ", 0)", ARGUMENT, y, () -> y.hours(minutes, 0));
            keepsSearch("hours(1, " + minutes + ")", ARGUMENT, y, () -> y.hours(1, minutes));
        }
        forgetsSearch("hours(480, 0)", y, () -> y.hours(480, 0));
    }

    private static void promise7Run() {
        DayCutPlans x = smallMill();
        // counts of pattern 0: 4 steps, and behind each 3 counts of pattern 1
        due("as many steps as there are", 0, () -> x.run(16));
        due("all were taken", 16, () -> x.search(0));
        due("one step too few", 2, () -> x.run(15));
        due("the best of them", 3 * 30 + 16, () -> x.best(0));
        due("no step at all", 2, () -> x.run(0));
        due("no plan either", 0, () -> x.search(2));
        nothingIsBest("spent without a plan", x);
        due("one step tells pattern 0 alone", 2, () -> x.run(1));
        nothingIsBest("spent after one step", x);
        due("two steps are the plan of no logs", 2, () -> x.run(2));
        due("its gain", 0, () -> x.best(0));
        due("three steps have a log of pattern 1", 2, () -> x.run(3));
        due("the last pattern goes fastest", 1, () -> x.used(1));
        for (int steps : new int[] {-1, 20001, LOW, HIGH}) {
            keepsSearch("run(" + steps + ")", ARGUMENT, x, () -> x.run(steps));
        }
        x.order(3, 1, 1, 1);
        due("none fills", 1, () -> x.run(20000));
        nothingIsBest("none fills", x);
        due("spent before none fills", 2, () -> x.run(15));

        DayCutPlans empty = new DayCutPlans();
        empty.order(0, 1, 1, 1);
        due("the empty plan does not fill", 1, () -> empty.run(0));
        due("no plan", 0, () -> empty.search(2));

        DayCutPlans twelve = new DayCutPlans();
        twelve.logs(0, 1000, 0);
        twelve.pattern(0, 1);
        twelve.gives(0, 0, 1);
        twelve.order(0, 0, 1000, 1);
        due("twelve logs a pattern at most", 0, () -> twelve.run(13));
        due("13 counts", 13, () -> twelve.search(0));
        due("12 logs", 12, () -> twelve.used(0));

        DayCutPlans tie = new DayCutPlans();
        tie.logs(0, 1, 0);
        tie.pattern(0, 1);
        tie.pattern(0, 2);
        tie.gives(0, 0, 1);
        tie.gives(1, 0, 1);
        tie.order(0, 0, 1, 1);
        due("two plans of one gain", 0, () -> tie.run(100));
        due("logs of a class are shared: 0 0, 0 1, 1 0", 5, () -> tie.search(0));
        due("the first one found", 1, () -> tie.used(1));
        due("and not the later", 0, () -> tie.used(0));
    }

    private static void promise8Search() {
        DayCutPlans x = smallMill();
        x.order(2, 0, 1000, 1000);
        x.order(3, 1000, 1000, 1000);
        nothingIsSearched("before the first search", x);
        x.run(20000);
        due("steps", 16, () -> x.search(0));
        due("proved, though none fills", 1, () -> x.search(1));
        due("none", 0, () -> x.search(2));
        due("bound", 2000 + 700 + 2000000, () -> x.search(3));
        x.order(3, 0, 0, 1000);
        x.run(9);
        due("steps of a spent search", 9, () -> x.search(0));
        due("not proved", 0, () -> x.search(1));
        due("there is one", 1, () -> x.search(2));
        due("bound of most 0", 2000 + 700 + 1000000, () -> x.search(3));
        for (int what : new int[] {-1, 4, LOW, HIGH}) {
            refused("search(" + what + ")", INDEX, () -> x.search(what));
        }
        x.hours(480, 0);
        refused("search(4) of no search", INDEX, () -> x.search(4));
        x.run(20000);
        x.saw();
        due("sawing tells nothing: the steps", 16, () -> x.search(0));
        due("sawing tells nothing: proved", 1, () -> x.search(1));
        due("but nothing is best", 0, () -> x.search(2));
        due("sawing tells nothing: the bound", 2000 + 700 + 1000000, () -> x.search(3));
    }

    private static void promise9Used() {
        DayCutPlans x = smallMill();
        refused("used(0) before a search", STATE, () -> x.used(0));
        refused("used(2) before a search", INDEX, () -> x.used(2));
        x.run(20000);
        due("used(0)", 3, () -> x.used(0));
        due("used(1)", 2, () -> x.used(1));
        for (int pattern : new int[] {-1, 2, 5, 6, LOW, HIGH}) {
            refused("used(" + pattern + ")", INDEX, () -> x.used(pattern));
        }
        x.pattern(3, 1);
        refused("used(2) of a new pattern", STATE, () -> x.used(2));
        x.run(20000);
        due("used(2)", 0, () -> x.used(2));
        x.saw();
        refused("used(0) after sawing", STATE, () -> x.used(0));
    }

    private static void promise10Best() {
        DayCutPlans x = smallMill();
        x.hours(480, 7);
        x.run(20000);
        due("gain", 122, () -> x.best(0));
        due("minutes", 414, () -> x.best(1));
        due("patterns", 2, () -> x.best(2));
        for (int what : new int[] {-1, 3, LOW, HIGH}) {
            refused("best(" + what + ")", INDEX, () -> x.best(what));
        }
        x.order(1, 0, 0, 0);
        nothingIsBest("since an order was told", x);
        refused("best(3) without a plan", INDEX, () -> x.best(3));
        x.run(20000);
        due("gain of one pattern", 90, () -> x.best(0));
        due("minutes of one pattern", 307, () -> x.best(1));
        due("one pattern", 1, () -> x.best(2));
        x.logs(0, 1, 10);
        x.run(20000);
        due("minutes of one log", 107, () -> x.best(1));
        due("one pattern by one log", 1, () -> x.best(2));
    }

    private static void promise11Made() {
        DayCutPlans x = smallMill();
        x.gives(1, 0, 1);
        refused("made(0) before a search", STATE, () -> x.made(0));
        refused("made(4) before a search", INDEX, () -> x.made(4));
        x.run(20000);
        due("of both patterns", 8, () -> x.made(0));
        due("of one pattern", 6, () -> x.made(1));
        due("of none", 0, () -> x.made(2));
        for (int product : new int[] {-1, 4, LOW, HIGH}) {
            refused("made(" + product + ")", INDEX, () -> x.made(product));
        }
        x.order(0, 0, 5, 20);
        x.run(20000);
        due("made may be above most", 6, () -> x.made(0));
        x.saw();
        refused("made(0) after sawing", STATE, () -> x.made(0));
        x.order(0, 0, 1, 0);
        x.order(1, 0, 1, 0);
        x.run(20000);
        due("stock is made too", 1, () -> x.made(0));
    }

    private static void promise12Saw() {
        DayCutPlans x = smallMill();
        refused("saw() before a search", STATE, x::saw);
        x.order(0, 0, 3, 20);
        x.run(20000);
        due("the gain", 72, x::saw);
        nothingIsBest("after sawing", x);
        refused("used(0) after sawing", STATE, () -> x.used(0));
        due("a day", 1, () -> x.mill(0));
        due("earned", 72, () -> x.mill(1));
        due("made less sold", 1, () -> x.mill(2));
        due("all sold", 0, () -> x.mill(3));
        x.order(0, 3, 4, 20);
        due("a log and the stock", 0, () -> x.run(20000));
        due("stock fills the order", 3, () -> x.made(0));
        due("logs became fewer: 0 0, 1 0", 4, () -> x.search(0));
        due("the gain of the stock too", 50, x::saw);
        due("two days", 2, () -> x.mill(0));
        due("earned by both", 122, () -> x.mill(1));
        due("the stock is sold", 0, () -> x.mill(2));
        due("no logs for more", 1, () -> x.run(20000));
        nothingIsBest("without logs", x);
        x.order(0, 0, 4, 20);
        x.run(20000);
        due("a day of no logs", 0, x::saw);
        due("it counts", 3, () -> x.mill(0));

        DayCutPlans loss = smallMill();
        loss.order(0, 1, 1, 3);
        loss.order(1, 0, 0, 0);
        loss.run(20000);
        due("a loss", -7, loss::saw);
        due("earned below 0", -7, () -> loss.mill(1));
        due("a board is left", 1, () -> loss.mill(2));
        loss.run(20000);
        due("the stock alone fills", 3, loss::saw);
        due("earned by both days", -4, () -> loss.mill(1));

        DayCutPlans spent = smallMill();
        spent.run(3);
        due("a plan of a spent search is sawn too", 16, spent::saw);
    }

    private static void promise13Mill() {
        DayCutPlans x = smallMill();
        x.gives(1, 2, 1);
        x.gives(1, 3, 5);
        x.order(0, 0, 5, 20);
        x.order(1, 0, 1, 1000);
        x.order(3, 0, 3, 1000);
        x.run(20000);
        x.saw();
        due("days", 1, () -> x.mill(0));
        due("earned", 100 - 30 + 1000 - 5 + 3000, () -> x.mill(1));
        due("stock of 0", 1, () -> x.mill(2));
        due("stock of 1", 2, () -> x.mill(3));
        due("stock of 2", 1, () -> x.mill(4));
        due("stock of 3", 2, () -> x.mill(5));
        for (int what : new int[] {-1, 6, LOW, HIGH}) {
            refused("mill(" + what + ")", INDEX, () -> x.mill(what));
        }
        x.order(3, 0, 0, 0);
        due("telling leaves the stock", 2, () -> x.mill(5));
        due("and what was earned", 4065, () -> x.mill(1));
    }

    private static void promise14Cost() {
        DayCutPlans x = smallMill();
        due("cost needs no search before it", 90, () -> x.cost(0, 20000));
        nothingIsSearched("after cost alone", x);
        due("of the other order", 32, () -> x.cost(1, 20000));
        due("of no order", 0, () -> x.cost(3, 20000));
        x.run(3);
        due("cost while a plan is best", 90, () -> x.cost(0, 20000));
        due("what was best stays so", 16, () -> x.best(0));
        due("its logs too", 1, () -> x.used(1));
        due("its search too", 3, () -> x.search(0));
        due("spent as it was", 0, () -> x.search(1));
        due("cost by two steps", 0, () -> x.cost(0, 2));
        due("cost by three steps", 16, () -> x.cost(1, 3));
        refused("no plan by one step", STATE, () -> x.cost(0, 1));
        refused("no plan by no step", STATE, () -> x.cost(0, 0));
        due("best after a refused cost", 16, () -> x.best(0));
        for (int product : new int[] {-1, 4, LOW, HIGH}) {
            refused("cost(" + product + ", 1)", INDEX, () -> x.cost(product, 1));
            refused("cost(" + product + ", -1)", INDEX, () -> x.cost(product, -1));
        }
        for (int steps : new int[] {-1, 20001, LOW, HIGH}) {
            refused("cost(0, " + steps + ")", ARGUMENT, () -> x.cost(0, steps));
        }
        x.order(0, 4, 4, 1);
        due("an order may cost more than it brings", -16, () -> x.cost(0, 20000));
        x.order(0, 7, 7, 1);
        refused("none fills with it", STATE, () -> x.cost(0, 20000));
        refused("none fills without another", STATE, () -> x.cost(1, 20000));
        x.order(0, 1, 1, 5);
        x.order(1, 0, 0, 0);
        due("run for a stock", 0, () -> x.run(20000));
        x.saw();
        due("an order that the stock fills", 5, () -> x.cost(0, 20000));
        due("days stay", 1, () -> x.mill(0));
        due("the stock stays", 1, () -> x.mill(2));

        DayCutPlans empty = new DayCutPlans();
        due("without patterns", 0, () -> empty.cost(0, 0));
        empty.order(0, 1, 1, 1);
        refused("the empty plan does not fill", STATE, () -> empty.cost(0, 0));
    }

    /** Six logs and six boards ordered, so that one plan alone fills: a log of each pattern. */
    private static void allPatternsAtOnce() {
        DayCutPlans x = new DayCutPlans();
        int[] logs = {2, 2, 1, 1};
        int[] least = {3, 1, 1, 1};
        int[] productOf = {0, 2, 0, 0, 1, 3};
        for (int k = 0; k < 4; k++) {
            x.logs(k, logs[k], 10 + k);
            x.order(k, least[k], 9, 100);
        }
        for (int pattern = 0; pattern < 6; pattern++) {
            x.pattern(pattern % 4, pattern + 1);
            x.gives(pattern, productOf[pattern], 1);
        }
        x.hours(21 + 6 * 9, 9);
        due("run of six patterns", 0, () -> x.run(20000));
        due("all are used", 6, () -> x.best(2));
        due("all their minutes", 75, () -> x.best(1));
        dueInTurn("used", new int[] {1, 1, 1, 1, 1, 1}, x::used);
        dueInTurn("made", least, x::made);
        due("all they bring", 600 - 20 - 22 - 12 - 13, x::saw);
        due("no log is left", 1, () -> x.run(20000));
        due("only 0 logs fit", 6, () -> x.search(0));
        x.logs(0, 2, 10);
        x.logs(1, 2, 11);
        x.logs(2, 1, 12);
        x.logs(3, 1, 13);
        x.hours(74, 9);
        due("a minute too few", 1, () -> x.run(20000));
    }

    private static void callsThatWearOut() {
        DayCutPlans x = new DayCutPlans();
        for (int cls = 0; cls < 4; cls++) {
            x.logs(cls, 1000, 100000);
            x.order(cls, 0, 1000, 1000);
        }
        for (int pattern = 0; pattern < 6; pattern++) {
            x.pattern(pattern % 4, 1);
            x.gives(pattern, pattern % 4, 9);
        }
        x.hours(1440, 1);
        // 21 calls before these and 2 behind them: 512, as many as an object answers for
        for (int call = 0; call < 489; call++) {
            due("run by all steps", 2, () -> x.run(20000));
        }
        due("steps", 20000, () -> x.search(0));
        due("bound", 4000000, () -> x.search(3));
    }

    public static void main(String[] args) {
        under("promise 1");
        promise1NewObject();
        under("promise 2");
        promise2Logs();
        under("promise 3");
        promise3Pattern();
        under("promise 4");
        promise4Gives();
        under("promise 5");
        promise5Order();
        under("promise 6");
        promise6Hours();
        under("promise 7");
        promise7Run();
        under("promise 8");
        promise8Search();
        under("promise 9");
        promise9Used();
        under("promise 10");
        promise10Best();
        under("promise 11");
        promise11Made();
        under("promise 12");
        promise12Saw();
        under("promise 13");
        promise13Mill();
        under("promise 14");
        promise14Cost();
        under("six patterns");
        allPatternsAtOnce();
        under("512 calls");
        callsThatWearOut();
        end();
    }
}

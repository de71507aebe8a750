// The mills that more than one test begins with.
final class Mills {
    private Mills() {
    }

    /** One class of logs and one pattern of it that takes a minute and gives a board of product 0. */
    static DayCutPlans onePattern(int logs, int cents) {
        DayCutPlans x = new DayCutPlans();
        x.logs(0, logs, cents);
        x.pattern(0, 1);
        x.gives(0, 0, 1);
        return x;
    }

    /** Two logs for pattern 0, one for pattern 1: nine steps; ten a board of 0, one a board of 1. */
    static DayCutPlans nineSteps() {
        DayCutPlans x = new DayCutPlans();
        x.logs(0, 2, 0);
        x.logs(1, 1, 0);
        x.pattern(0, 1);
        x.pattern(1, 1);
        x.gives(0, 0, 1);
        x.gives(1, 1, 1);
        x.order(0, 0, 1000, 10);
        x.order(1, 0, 1000, 1);
        return x;
    }
}

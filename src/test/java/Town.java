/** Objects in the states that tests begin with, each made anew; none takes more than 260 calls. */
final class Town {
    static final int WEEK_HOURS = 168;
    static final int LAST_HOUR = 200 * WEEK_HOURS - 1;

    private Town() {
    }

    static BreadLaw withBakers(int n) {
        BreadLaw x = new BreadLaw();
        for (int i = 0; i < n; i++) {
            x.baker();
        }
        return x;
    }

    /** One baker with 93750 ounces of flour of each of so many lots, the records 0 and on. */
    static BreadLaw withFlour(int lots) {
        BreadLaw x = withBakers(1);
        for (int i = 0; i < lots; i++) {
            x.buy(0, 100000, 100);
            x.grind(i);
        }
        return x;
    }

    /** One baker with flour (record 0) and a batch (record 1) of one loaf; from week 0 on 1000 ounces are due. */
    static BreadLaw withLoaf(int weight, int allowance) {
        BreadLaw x = withFlour(1);
        x.text(0, 100, 100, 100, allowance);
        x.step(0, 0, 1000);
        x.bake(0, 0, 1, weight);
        return x;
    }

    /** The same, with a loaf that is short at once, found so by four searches (records 2 to 5) in week 0. */
    static BreadLaw barred() {
        BreadLaw x = withLoaf(999, 0);
        for (int i = 0; i < 4; i++) {
            x.search();
        }
        return x;
    }

    /**
     * Something of all: week 2, hour 64; three bakers, one of them still to be searched by the row; lots
     * 0, 1, 3 (ground), 2, 8 (not); batches 4, 5; searches 6, 7; two texts; two harvests to come.
     */
    static BreadLaw busy() {
        BreadLaw x = withBakers(3);
        x.text(0, 100, 150, 200, 1);
        x.step(0, 0, 600);
        x.step(0, 60, 400);
        x.text(2, 90, 110, 130, 2);
        x.step(1, 0, 500);
        x.rules(2, 20);
        x.dish(10);
        x.buy(0, 5000, 50);
        x.buy(1, 3000, 70);
        x.buy(2, 2000, 90);
        x.buy(0, 1000, 30);
        x.grind(3);
        x.grind(0);
        x.grind(1);
        x.bake(0, 0, 2, 300);
        x.bake(1, 1, 2, 400);
        x.store(50000);
        x.mouths(40, 25);
        x.ration(80);
        x.harvest(5, 700);
        x.harvest(9, 12345);
        x.go(2 * WEEK_HOURS + 64);
        x.search();
        x.search();
        x.buy(2, 100, 10);
        return x;
    }

    static BreadLaw busyTill(int hours) {
        BreadLaw x = busy();
        goTo(x, hours);
        return x;
    }

    static BreadLaw busyWithFullBook() {
        BreadLaw x = busy();
        fillBook(x);
        return x;
    }

    /** The row of turns is drawn, and three were searched by it. */
    static BreadLaw withEightBakers() {
        BreadLaw x = busy();
        for (int i = 3; i < 8; i++) {
            x.baker();
        }
        for (int i = 0; i < 3; i++) {
            x.search();
        }
        return x;
    }

    /** Text 0 has eight steps. */
    static BreadLaw withSixTexts() {
        BreadLaw x = busy();
        for (int i = 2; i < 6; i++) {
            x.text(3 * i, 100, 100, 100, 0);
        }
        for (int i = 2; i < 8; i++) {
            x.step(0, 100 * i, 900 - 100 * i);
        }
        return x;
    }

    static BreadLaw withEightSteps() {
        BreadLaw x = withBakers(1);
        x.text(0, 100, 100, 100, 0);
        for (int i = 0; i < 8; i++) {
            x.step(0, 100 * i, 900 - 100 * i);
        }
        return x;
    }

    static BreadLaw withTenHarvests() {
        BreadLaw x = busy();
        for (int i = 2; i < 10; i++) {
            x.harvest(3 + i, 100 * i);
        }
        return x;
    }

    static BreadLaw withFullStore() {
        BreadLaw x = new BreadLaw();
        for (int i = 0; i < 10; i++) {
            x.store(10000000);
        }
        return x;
    }

    static void fillBook(BreadLaw x) {
        for (int i = x.told(4); i < 200; i++) {
            Due.is("fillBook " + i, x.buy(0, 1, 1), i);
        }
    }

    /** To an hour, counted from the first one of week 0. */
    static void goTo(BreadLaw x, int hours) {
        int left = hours - x.told(0) * WEEK_HOURS - x.told(1);
        while (left > 0) {
            x.go(Math.min(left, 5000));
            left -= 5000;
        }
    }

    static void goTo(BreadLaw x, int week, int hour) {
        goTo(x, week * WEEK_HOURS + hour);
    }
}

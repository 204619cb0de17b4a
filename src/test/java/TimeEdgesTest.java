/** The edges of part 1 of the Terms: a method for each sentence that names some. RefusedTest has the wrong inputs. */
public final class TimeEdgesTest {
    private static final int STATE = -3, FULL = -4;

    public static void main(String[] args) {
        weekAndHourAreZeroAtFirst();
        hourGoesTo167();
        weekGoesTo199();
        hoursAreOneTo5000();
        noHourGoesOnBeyondWeek199();
        bakersAreEightAtMost();
        recordsAre200TogetherAllLots();
        recordsAre200TogetherAllBatches();
        recordsAre200TogetherAllSearches();
        recordsAreNumberedAsTheyCome();
        lotHasOneTo100000Ounces();
        lotHasPriceOneTo1000();
        priceIsOfAllLotsOfItsWeek();
        priceIsCut();
        priceOfWeekWithoutLotsIsThatOfTheWeekAhead();
        priceAheadOfWeek0Is100();
        priceOfTheLastWeek();
        dishIs16AtFirst();
        dishIsTwoTo100();
        dishIsForLotsGroundLater();
        millerKeepsNothingOfASmallLot();
        millerKeepsTheMost();
        flourIsInTheOrderOfGrinding();
        lotIsFlourWhenItWasGround();
        Due.end();
    }

    private static void isAt(String where, BreadLaw x, int week, int hour) {
        Due.is(where + ": week", x.told(0), week);
        Due.is(where + ": hour", x.told(1), hour);
    }

    private static void weekAndHourAreZeroAtFirst() {
        isAt("at first", new BreadLaw(), 0, 0);
        BreadLaw x = Town.withBakers(1);
        x.buy(0, 1, 1);
        Due.is("a record of the first hour: week", x.record(0, 1), 0);
        Due.is("a record of the first hour: hour", x.record(0, 2), 0);
    }

    private static void hourGoesTo167() {
        BreadLaw x = new BreadLaw();
        for (int week = 0; week < 80; week++) {
            Due.is("to the last hour of week " + week, x.go(167), week);
            isAt("the last hour", x, week, 167);
            Due.is("to the week behind " + week, x.go(1), week + 1);
            isAt("the first hour", x, week + 1, 0);
        }
        x.go(167);
        Due.is("from the last hour to the next last one", x.go(168), 81);
        isAt("the next last hour", x, 81, 167);

        BreadLaw y = Town.withBakers(1);
        y.go(167);
        y.buy(0, 1, 1);
        y.go(1);
        y.buy(0, 1, 1);
        Due.is("a record of the last hour: week", y.record(0, 1), 0);
        Due.is("a record of the last hour: hour", y.record(0, 2), 167);
        Due.is("a record of the next hour: week", y.record(1, 1), 1);
        Due.is("a record of the next hour: hour", y.record(1, 2), 0);
    }

    private static void weekGoesTo199() {
        BreadLaw x = Town.withBakers(1);
        Town.goTo(x, 198, 167);
        Due.is("to the last week", x.go(1), 199);
        isAt("the last week", x, 199, 0);
        Due.is("to its last hour", x.go(167), 199);
        isAt("the last hour of all", x, 199, 167);
        x.buy(0, 1, 1);
        Due.is("the last record: week", x.record(0, 1), 199);
        Due.is("the last record: hour", x.record(0, 2), 167);
    }

    private static void hoursAreOneTo5000() {
        BreadLaw x = new BreadLaw();
        Due.is("the least", x.go(1), 0);
        isAt("the least", x, 0, 1);
        Due.is("the most", x.go(5000), 29);
        isAt("the most", x, 29, 129);
        Due.is("one less than the most", x.go(4999), 59);
        isAt("one less than the most", x, 59, 88);
    }

    private static void noHourGoesOnBeyondWeek199() {
        for (int left : new int[] {1, 2, 167, 168, 169, 4998, 4999}) {
            BreadLaw x = new BreadLaw();
            Town.goTo(x, Town.LAST_HOUR - left);
            Due.is("one hour more than the " + left + " that are left", x.go(left + 1), STATE);
            isAt("no hour went on", x, (Town.LAST_HOUR - left) / 168, (Town.LAST_HOUR - left) % 168);
            Due.is("the " + left + " that are left", x.go(left), 199);
            isAt("the last hour", x, 199, 167);
            Due.is("one more", x.go(1), STATE);
        }
        BreadLaw y = new BreadLaw();
        Town.goTo(y, Town.LAST_HOUR - 5000);
        Due.is("the most to the last hour", y.go(5000), 199);
        isAt("the last hour", y, 199, 167);
    }

    private static void bakersAreEightAtMost() {
        BreadLaw x = new BreadLaw();
        Due.is("none", x.told(2), 0);
        for (int i = 0; i < 8; i++) {
            Due.is("a baker", x.baker(), i);
            Due.is("so many", x.told(2), i + 1);
            Due.is("the last one bakes", x.buy(i, 1, 1), i);
            Due.is("its mark", x.record(i, 3), i);
        }
        Due.is("a ninth", x.baker(), FULL);
        Due.is("so many", x.told(2), 8);
    }

    /** No sort of record has room any more. */
    private static void isFull(String where, BreadLaw x) {
        Due.is(where + ": records", x.told(4), 200);
        Due.is(where + ": a lot more", x.buy(0, 1, 1), FULL);
        Due.is(where + ": a batch more", x.bake(0, 0, 1, 1), FULL);
        Due.is(where + ": a search more", x.search(), FULL);
        Due.is(where + ": records", x.told(4), 200);
    }

    private static void recordsAre200TogetherAllLots() {
        BreadLaw x = Town.withBakers(1);
        Due.is("no records", x.told(4), 0);
        for (int i = 0; i < 200; i++) {
            Due.is("a lot", x.buy(0, 100, 1), i);
        }
        isFull("all lots", x);
        Due.is("a full book: grinding goes on", x.grind(199), 6);
        isFull("all lots, and flour", x);
        Due.is("lots", x.about(0, 1), 200);
        Due.is("the last is a lot", x.record(199, 0), 1);
    }

    private static void recordsAre200TogetherAllBatches() {
        BreadLaw x = Town.withFlour(1);
        for (int i = 1; i < 200; i++) {
            Due.is("a batch", x.bake(0, 0, 1, 1), i);
        }
        isFull("all batches", x);
        Due.is("batches", x.about(0, 2), 199);
        Due.is("the last is a batch", x.record(199, 0), 2);
        Due.is("it is the latest", x.about(0, 7), 199);
        Due.is("flour", x.about(0, 0), 93750 - 199);
    }

    private static void recordsAre200TogetherAllSearches() {
        BreadLaw x = Town.withBakers(1);
        for (int i = 0; i < 200; i++) {
            Due.is("a search", x.search(), i);
        }
        isFull("all searches", x);
        Due.is("searches", x.about(0, 3), 200);
        Due.is("the last is a search", x.record(199, 0), 3);
    }

    private static void recordsAreNumberedAsTheyCome() {
        BreadLaw x = Town.withFlour(1);
        for (int i = 1; i < 200; i++) {
            int number = i % 3 == 0 ? x.buy(0, 1, 1) : i % 3 == 1 ? x.bake(0, 0, 1, 1) : x.search();
            Due.is("a record", number, i);
        }
        isFull("all sorts", x);
        for (int i = 0; i < 200; i++) {
            Due.is("sort of record " + i, x.record(i, 0), i % 3 + 1);
        }
        Due.is("lots", x.about(0, 1), 67);
        Due.is("batches", x.about(0, 2), 67);
        Due.is("searches", x.about(0, 3), 66);
    }

    private static void lotHasOneTo100000Ounces() {
        BreadLaw x = Town.withBakers(1);
        Due.is("the least", x.buy(0, 1, 500), 0);
        Due.is("the most", x.buy(0, 100000, 500), 1);
        Due.is("the least", x.lot(0, 0), 1);
        Due.is("the most", x.lot(1, 0), 100000);
    }

    private static void lotHasPriceOneTo1000() {
        BreadLaw x = Town.withBakers(1);
        Due.is("the least", x.buy(0, 500, 1), 0);
        Due.is("price of the week", x.price(0), 1);
        x.go(168);
        Due.is("the most", x.buy(0, 500, 1000), 1);
        Due.is("price of the week", x.price(1), 1000);
        Due.is("the least", x.lot(0, 1), 1);
        Due.is("the most", x.lot(1, 1), 1000);
    }

    private static void priceIsOfAllLotsOfItsWeek() {
        BreadLaw x = Town.withBakers(2);
        x.buy(0, 10, 10);
        x.go(167);
        x.buy(1, 30, 50);
        Due.is("the first and the last hour", x.price(0), 40);
        x.go(1);
        Due.is("none yet in the next one", x.price(1), 40);
        x.buy(0, 1, 7);
        Due.is("the next one", x.price(1), 7);
        Due.is("the week ahead is as it was", x.price(0), 40);
        x.grind(2);
        Due.is("ground or not", x.price(1), 7);

        BreadLaw most = Town.withBakers(1);
        for (int i = 0; i < 200; i++) {
            most.buy(0, 100000, i == 0 ? 800 : 1000);
        }
        Due.is("200 of the greatest lots", most.price(0), 999);
    }

    private static void priceIsCut() {
        BreadLaw x = Town.withBakers(1);
        x.buy(0, 99999, 8);
        x.buy(0, 1, 7);
        Due.is("a hair below 8", x.price(0), 7);
        x.buy(0, 1, 9);
        Due.is("8", x.price(0), 8);
        x.buy(0, 1, 9);
        Due.is("a hair above 8", x.price(0), 8);
    }

    private static void priceOfWeekWithoutLotsIsThatOfTheWeekAhead() {
        BreadLaw x = Town.withBakers(1);
        Town.goTo(x, 3, 0);
        for (int week = 0; week <= 3; week++) {
            Due.is("none so far, week " + week, x.price(week), 100);
        }
        x.buy(0, 1, 33);
        Town.goTo(x, 6, 0);
        x.buy(0, 1, 66);
        Town.goTo(x, 150, 0);
        int[] weeks = {0, 2, 3, 4, 5, 6, 7, 149, 150};
        int[] prices = {100, 100, 33, 33, 33, 66, 66, 66, 66};
        for (int i = 0; i < weeks.length; i++) {
            Due.is("price of week " + weeks[i], x.price(weeks[i]), prices[i]);
        }
    }

    private static void priceAheadOfWeek0Is100() {
        BreadLaw x = Town.withBakers(1);
        Due.is("without lots", x.price(-1), 100);
        x.buy(0, 100000, 1);
        Due.is("with lots", x.price(-1), 100);
        Town.goTo(x, 199, 0);
        Due.is("in the last week", x.price(-1), 100);
    }

    private static void priceOfTheLastWeek() {
        BreadLaw x = Town.withBakers(1);
        x.buy(0, 5, 44);
        Town.goTo(x, 199, 167);
        Due.is("without lots", x.price(199), 44);
        x.buy(0, 5, 45);
        Due.is("with a lot", x.price(199), 45);
        Due.is("of the week ahead", x.price(198), 44);
    }

    private static void dishIs16AtFirst() {
        BreadLaw x = Town.withBakers(1);
        int[] ounces = {15, 16, 31, 32};
        int[] kept = {0, 1, 1, 2};
        for (int i = 0; i < ounces.length; i++) {
            x.buy(0, ounces[i], 1);
            Due.is("of " + ounces[i], x.grind(i), kept[i]);
            Due.is("flour of " + ounces[i], x.lot(i, 3), ounces[i] - kept[i]);
        }
        Due.is("in all", x.told(5), 4);
        Due.is("which it was", x.dish(16), 16);
    }

    private static void dishIsTwoTo100() {
        BreadLaw x = Town.withBakers(1);
        x.buy(0, 199, 1);
        x.buy(0, 199, 1);
        Due.is("the least", x.dish(2), 16);
        Due.is("by 2", x.grind(0), 99);
        Due.is("the most", x.dish(100), 2);
        Due.is("by 100", x.grind(1), 1);
        Due.is("in all", x.told(5), 100);
        Due.is("flour", x.about(0, 0), 298);
        Due.is("one less", x.dish(99), 100);
        Due.is("one more than the least", x.dish(3), 99);
        Due.is("and again", x.dish(3), 3);
    }

    private static void dishIsForLotsGroundLater() {
        BreadLaw x = Town.withBakers(1);
        x.buy(0, 1000, 1);
        x.buy(0, 1000, 1);
        x.dish(10);
        x.grind(1);
        x.dish(20);
        Due.is("ground ahead", x.lot(1, 3), 900);
        Due.is("bought ahead, ground now", x.grind(0), 50);
        Due.is("kept in all", x.told(5), 150);
    }

    private static void millerKeepsNothingOfASmallLot() {
        BreadLaw x = Town.withBakers(1);
        x.dish(2);
        x.buy(0, 1, 1);
        x.buy(0, 2, 1);
        Due.is("of 1", x.grind(0), 0);
        Due.is("it was ground", x.lot(0, 2), 1);
        Due.is("all is flour", x.lot(0, 3), 1);
        Due.is("twice", x.grind(0), STATE);
        Due.is("of 2", x.grind(1), 1);
        Due.is("half is flour", x.lot(1, 3), 1);
    }

    private static void millerKeepsTheMost() {
        BreadLaw x = Town.withBakers(1);
        x.dish(2);
        for (int i = 0; i < 200; i++) {
            x.buy(0, 100000, 1);
            Due.is("half of lot " + i, x.grind(i), 50000);
        }
        Due.is("in all", x.told(5), 10000000);
        Due.is("flour in all", x.about(0, 0), 10000000);
    }

    private static void flourIsInTheOrderOfGrinding() {
        BreadLaw x = Town.withBakers(2);
        for (int i = 0; i < 5; i++) {
            x.buy(i == 1 ? 1 : 0, 10, 1);
        }
        for (int record : new int[] {4, 1, 2, 0, 3}) {
            x.grind(record);
        }
        int[] order = {4, 2, 0, 3};
        for (int i = 0; i < order.length; i++) {
            x.bake(0, 0, 1, 10);
            Due.is("lots that gave", x.batch(5 + i, 3), 1);
            Due.is("lot " + i, x.batch(5 + i, 10), order[i]);
            Due.is("nothing is left of it", x.lot(order[i], 3), 0);
        }
        Due.is("the other's is whole", x.lot(1, 3), 10);
        Due.is("it has no more", x.about(0, 0), 0);
    }

    private static void lotIsFlourWhenItWasGround() {
        BreadLaw x = Town.withBakers(1);
        x.buy(0, 1600, 1);
        Due.is("not ground", x.lot(0, 2), 0);
        Due.is("no flour", x.lot(0, 3), 0);
        Due.is("no flour of the baker", x.about(0, 0), 0);
        x.grind(0);
        Due.is("ground", x.lot(0, 2), 1);
        Due.is("flour", x.lot(0, 3), 1500);
        Due.is("flour of the baker", x.about(0, 0), 1500);
        x.bake(0, 0, 1, 1500);
        Due.is("ground, though nothing is left", x.lot(0, 2), 1);
        Due.is("nothing is left", x.lot(0, 3), 0);
        Due.is("its ounces are as bought", x.lot(0, 0), 1600);
    }
}

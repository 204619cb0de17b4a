/** The edges of part 2 of the Terms: a method for each sentence that names some. RefusedTest has the wrong inputs. */
public final class LawEdgesTest {
    private static final int FULL = -4, NO = -5, NONE = -6;

    public static void main(String[] args) {
        withoutTexts();
        textsAreSixAtMost();
        textIsInForceFromItsWeekOn();
        textMayBeOfTheFirstOrLastWeek();
        textToldLaterMayBeForAnEarlierWeek();
        ofSeveralTextsTheLastTold();
        stepsAreEightAtMost();
        stepIsFromItsPriceOn();
        stepHasPrice0To1000();
        stepHasOneTo1000Ounces();
        ofSeveralStepsTheGreatestPrice();
        ofSeveralStepsTheLastTold();
        sharesAre10To300();
        allowanceIs0To5();
        dueIsCut();
        dueIs0WithoutSuchAStep();
        dueIsByThePriceOfTheWeekAhead();
        dueIsOfWeek0ToWeekNow();
        kindsAre0To2();
        batchHasOneTo500Loaves();
        batchHasWeightOneTo2000();
        batchTakesAllFlourButNotMore();
        batchOfTheMostOuncesOfElevenLots();
        batchOfTheMostLots();
        batchTakesOfTheFirstGroundLotFirst();
        batchTellsWhatEachLotGave();
        flourIsOfItsBaker();
        Due.end();
    }

    /** A text of that week, with shares of 100 and a step of so many ounces from price 0 on. */
    private static int plainText(BreadLaw x, int week, int ounces) {
        int text = x.text(week, 100, 100, 100, 0);
        x.step(text, 0, ounces);
        return text;
    }

    private static void withoutTexts() {
        BreadLaw x = Town.withBakers(1);
        Due.is("no texts", x.told(3), 0);
        Town.goTo(x, 199, 167);
        for (int week = 0; week < 200; week++) {
            Due.is("in force in week " + week, x.inForce(week), NONE);
            Due.is("due in week " + week, x.due(week % 3, week), 0);
        }
    }

    private static void textsAreSixAtMost() {
        BreadLaw x = new BreadLaw();
        Town.goTo(x, 100, 0);
        for (int i = 0; i < 6; i++) {
            Due.is("a text", plainText(x, 60 - 10 * i, 100 + i), i);
            Due.is("so many", x.told(3), i + 1);
        }
        Due.is("a seventh", x.text(0, 100, 100, 100, 0), FULL);
        Due.is("so many", x.told(3), 6);
        int[] weeks = {9, 10, 19, 20, 29, 30, 39, 40, 49, 50, 59, 60, 100};
        int[] texts = {NONE, 5, 5, 4, 4, 3, 3, 2, 2, 1, 1, 0, 0};
        for (int i = 0; i < weeks.length; i++) {
            Due.is("in force in week " + weeks[i], x.inForce(weeks[i]), texts[i]);
            Due.is("due in week " + weeks[i], x.due(0, weeks[i]), texts[i] == NONE ? 0 : 100 + texts[i]);
        }
    }

    private static void textIsInForceFromItsWeekOn() {
        BreadLaw x = new BreadLaw();
        plainText(x, 100, 7);
        Town.goTo(x, 199, 0);
        for (int week = 0; week < 200; week++) {
            Due.is("in force in week " + week, x.inForce(week), week < 100 ? NONE : 0);
            Due.is("due in week " + week, x.due(0, week), week < 100 ? 0 : 7);
        }
    }

    private static void textMayBeOfTheFirstOrLastWeek() {
        BreadLaw x = new BreadLaw();
        Due.is("of the last week", plainText(x, 199, 8), 0);
        Due.is("none yet", x.inForce(198), NONE);
        Due.is("it alone", x.inForce(199), 0);
        Due.is("of the first week", plainText(x, 0, 9), 1);
        Due.is("the first week", x.inForce(0), 1);
        Due.is("the last but one", x.inForce(198), 1);
        Due.is("the last", x.inForce(199), 0);
        Town.goTo(x, 199, 167);
        Due.is("due in the last but one", x.due(0, 198), 9);
        Due.is("due in the last", x.due(0, 199), 8);
    }

    private static void textToldLaterMayBeForAnEarlierWeek() {
        BreadLaw x = new BreadLaw();
        plainText(x, 30, 300);
        Town.goTo(x, 50, 0);
        plainText(x, 10, 100);
        plainText(x, 50, 500);
        plainText(x, 51, 510);
        int[] weeks = {9, 10, 29, 30, 49, 50, 51, 199};
        int[] texts = {NONE, 1, 1, 0, 0, 2, 3, 3};
        for (int i = 0; i < weeks.length; i++) {
            Due.is("in force in week " + weeks[i], x.inForce(weeks[i]), texts[i]);
        }
        Due.is("due in a week that is over", x.due(0, 29), 100);
        Due.is("due in today's week", x.due(0, 50), 500);
    }

    private static void ofSeveralTextsTheLastTold() {
        BreadLaw x = new BreadLaw();
        for (int i = 0; i < 6; i++) {
            plainText(x, i == 3 ? 4 : 5, 10 + i);
            Due.is("the last told of week 5", x.inForce(5), i == 3 ? 2 : i);
            Due.is("from it on", x.inForce(199), i == 3 ? 2 : i);
        }
        Due.is("the week ahead", x.inForce(4), 3);
        Due.is("and ahead of that", x.inForce(3), NONE);
        Town.goTo(x, 5, 0);
        Due.is("due", x.due(0, 5), 15);
    }

    private static void stepsAreEightAtMost() {
        for (int way = 0; way < 2; way++) {
            BreadLaw x = Town.withBakers(1);
            x.text(0, 100, 100, 100, 0);
            Due.is("no steps", x.due(0, 0), 0);
            for (int i = 0; i < 8; i++) {
                int price = 100 * (way == 0 ? i : 7 - i);
                Due.is("a step", x.step(0, price, 900 - price), i + 1);
            }
            Due.is("a ninth", x.step(0, 0, 1), FULL);
            for (int week = 0; week < 8; week++) {
                x.buy(0, 1, 100 * week + 99);
                x.go(168);
                Due.is("each of the eight: " + week, x.due(0, week + 1), 900 - 100 * week);
            }
            Due.is("another text has none", x.text(9, 100, 100, 100, 0), 1);
            Due.is("its first", x.step(1, 0, 1), 1);
        }
    }

    private static void stepIsFromItsPriceOn() {
        for (int price : new int[] {99, 100, 101}) {
            BreadLaw x = new BreadLaw();
            x.text(0, 100, 100, 100, 0);
            x.step(0, price, 500);
            Due.is("price is 100, a step from " + price + " on", x.due(0, 0), price <= 100 ? 500 : 0);
        }
    }

    private static void stepHasPrice0To1000() {
        BreadLaw x = Town.withBakers(1);
        x.text(0, 100, 100, 100, 0);
        Due.is("the most", x.step(0, 1000, 7), 1);
        x.buy(0, 1, 999);
        x.go(168);
        Due.is("999 is below the greatest step", x.due(0, 1), 0);
        Due.is("the least", x.step(0, 0, 9), 2);
        Due.is("999 is above the least", x.due(0, 1), 9);
        x.buy(0, 1, 1000);
        x.go(168);
        Due.is("1000 is the greatest step's", x.due(0, 2), 7);
        x.buy(0, 1, 1);
        x.go(168);
        Due.is("1 is above the least", x.due(0, 3), 9);
    }

    private static void stepHasOneTo1000Ounces() {
        BreadLaw x = new BreadLaw();
        x.text(0, 100, 100, 100, 0);
        Due.is("the least", x.step(0, 0, 1), 1);
        Due.is("the least", x.due(0, 0), 1);
        Due.is("the most", x.step(0, 0, 1000), 2);
        Due.is("the most", x.due(0, 0), 1000);
    }

    private static void ofSeveralStepsTheGreatestPrice() {
        BreadLaw x = new BreadLaw();
        x.text(0, 100, 100, 100, 0);
        int[] prices = {50, 101, 20, 60, 40, 1000, 100, 99};
        int[] due = {50, 50, 50, 60, 60, 60, 100, 100};
        for (int i = 0; i < prices.length; i++) {
            x.step(0, prices[i], prices[i]);
            Due.is("after a step from " + prices[i] + " on", x.due(0, 0), due[i]);
        }
    }

    private static void ofSeveralStepsTheLastTold() {
        BreadLaw x = new BreadLaw();
        x.text(0, 100, 100, 100, 0);
        for (int i = 1; i <= 8; i++) {
            x.step(0, i == 5 ? 6 : 7, 100 * i);
            Due.is("the last told from 7 on", x.due(0, 0), i == 5 ? 400 : 100 * i);
        }
        BreadLaw y = new BreadLaw();
        y.text(0, 100, 100, 100, 0);
        y.step(0, 0, 3);
        y.step(0, 0, 2);
        Due.is("the last told from 0 on", y.due(0, 0), 2);
    }

    private static void sharesAre10To300() {
        BreadLaw x = new BreadLaw();
        Due.is("the least, the most, between", x.text(0, 10, 300, 155, 0), 0);
        x.step(0, 0, 1000);
        Due.is("the least", x.due(0, 0), 100);
        Due.is("the most", x.due(1, 0), 3000);
        Due.is("between", x.due(2, 0), 1550);
        Due.is("otherwise", x.text(0, 300, 10, 300, 0), 1);
        x.step(1, 0, 1000);
        Due.is("the most", x.due(0, 0), 3000);
        Due.is("the least", x.due(1, 0), 100);
        Due.is("the most", x.due(2, 0), 3000);
        Due.is("otherwise", x.text(0, 11, 299, 10, 0), 2);
        x.step(2, 0, 1000);
        Due.is("one more than the least", x.due(0, 0), 110);
        Due.is("one less than the most", x.due(1, 0), 2990);
        Due.is("the least", x.due(2, 0), 100);
    }

    private static void allowanceIs0To5() {
        for (int allowance = 0; allowance <= 5; allowance++) {
            BreadLaw x = Town.withLoaf(1000, allowance);
            x.go(10);
            x.search();
            Due.is("allowance " + allowance, x.found(2, 3), 1000 - 10 * allowance);
        }
    }

    private static void dueIsCut() {
        BreadLaw x = new BreadLaw();
        x.text(0, 10, 33, 299, 0);
        int[][] due = {{1, 0, 0, 2}, {9, 0, 2, 26}, {10, 1, 3, 29}, {19, 1, 6, 56}, {999, 99, 329, 2987}};
        for (int[] row : due) {
            x.step(0, 0, row[0]);
            for (int kind = 0; kind < 3; kind++) {
                Due.is("of " + row[0] + " ounces, kind " + kind, x.due(kind, 0), row[kind + 1]);
            }
        }
    }

    private static void dueIs0WithoutSuchAStep() {
        BreadLaw x = new BreadLaw();
        plainText(x, 0, 500);
        x.text(0, 100, 100, 100, 0);
        Due.is("the text in force has no step, an earlier one has", x.due(0, 0), 0);
        x.step(1, 101, 400);
        Due.is("it has one from above the price on", x.due(0, 0), 0);
        x.step(1, 100, 300);
        Due.is("it has one", x.due(0, 0), 300);
    }

    private static void dueIsByThePriceOfTheWeekAhead() {
        BreadLaw x = Town.withBakers(1);
        x.text(0, 100, 100, 100, 0);
        x.step(0, 0, 1);
        x.step(0, 50, 50);
        x.step(0, 100, 100);
        x.step(0, 200, 200);
        x.buy(0, 1, 50);
        Due.is("in week 0 it is 100", x.due(0, 0), 100);
        x.go(168);
        x.buy(0, 1, 200);
        Due.is("in week 1 that of week 0", x.due(0, 1), 50);
        x.go(168);
        Due.is("in week 2 that of week 1", x.due(0, 2), 200);
        x.go(168 * 3);
        Due.is("in week 5 that of week 4, which is of week 1", x.due(0, 5), 200);
        Due.is("week 0 is as it was", x.due(0, 0), 100);
    }

    private static void dueIsOfWeek0ToWeekNow() {
        BreadLaw x = new BreadLaw();
        plainText(x, 0, 77);
        for (int week = 0; week < 30; week++) {
            Due.is("week 0 in week " + week, x.due(0, 0), 77);
            Due.is("week now", x.due(0, week), 77);
            Due.is("the week behind it", x.due(0, week + 1), -1);
            x.go(168);
        }
        Town.goTo(x, 199, 167);
        Due.is("the last week", x.due(2, 199), 77);
    }

    private static void kindsAre0To2() {
        BreadLaw x = Town.withFlour(1);
        x.text(0, 10, 20, 30, 0);
        x.step(0, 0, 100);
        for (int kind = 0; kind <= 2; kind++) {
            Due.is("due of kind " + kind, x.due(kind, 0), 10 * kind + 10);
            Due.is("a batch of kind " + kind, x.bake(0, kind, 1, 10 * kind + 9), 2 * kind + 1);
            Due.is("its kind", x.batch(2 * kind + 1, 0), kind);
            Due.is("a search", x.search(), 2 * kind + 2);
            Due.is("what was asked of kind " + kind, x.found(2 * kind + 2, 3), 10 * kind + 10);
        }
    }

    private static void batchHasOneTo500Loaves() {
        BreadLaw x = Town.withFlour(1);
        Due.is("the least", x.bake(0, 0, 1, 100), 1);
        Due.is("the most", x.bake(0, 0, 500, 100), 2);
        Due.is("the least", x.batch(1, 1), 1);
        Due.is("the most", x.batch(2, 1), 500);
        Due.is("flour", x.about(0, 0), 93750 - 100 - 50000);
    }

    private static void batchHasWeightOneTo2000() {
        BreadLaw x = Town.withFlour(1);
        Due.is("the least", x.bake(0, 0, 10, 1), 1);
        Due.is("the most", x.bake(0, 0, 10, 2000), 2);
        Due.is("the least", x.batch(1, 2), 1);
        Due.is("the most", x.batch(2, 2), 2000);
        Due.is("flour", x.about(0, 0), 93750 - 10 - 20000);
    }

    private static void batchTakesAllFlourButNotMore() {
        BreadLaw x = Town.withBakers(1);
        Due.is("no flour at all", x.bake(0, 0, 1, 1), NO);
        x.buy(0, 100, 1);
        Due.is("corn is not flour yet", x.bake(0, 0, 1, 1), NO);
        x.grind(0);
        Due.is("an ounce too much", x.bake(0, 0, 1, 95), NO);
        Due.is("an ounce too much, in loaves", x.bake(0, 0, 5, 19), NO);
        Due.is("all but one", x.bake(0, 0, 3, 31), 1);
        Due.is("an ounce too much", x.bake(0, 0, 2, 1), NO);
        Due.is("all", x.bake(0, 0, 1, 1), 2);
        Due.is("none is left", x.about(0, 0), 0);
        Due.is("none is left of the lot", x.lot(0, 3), 0);
        Due.is("none is left", x.bake(0, 0, 1, 1), NO);
    }

    private static void batchOfTheMostOuncesOfElevenLots() {
        BreadLaw x = Town.withFlour(10);
        Due.is("1000000 ounces, and 62500 too few", x.bake(0, 0, 500, 2000), NO);
        x.buy(0, 100000, 100);
        x.grind(10);
        Due.is("1000000 ounces", x.bake(0, 0, 500, 2000), 11);
        Due.is("lots that gave", x.batch(11, 3), 11);
        for (int i = 0; i < 11; i++) {
            Due.is("lot " + i, x.batch(11, 10 + 2 * i), i);
            Due.is("its ounces", x.batch(11, 11 + 2 * i), i < 10 ? 93750 : 62500);
            Due.is("what is left of it", x.lot(i, 3), i < 10 ? 0 : 31250);
        }
        Due.is("not so many", x.batch(11, 32), NONE);
        Due.is("not so many", x.batch(11, 33), NONE);
        Due.is("flour", x.about(0, 0), 31250);
    }

    private static void batchOfTheMostLots() {
        BreadLaw x = Town.withBakers(1);
        for (int i = 0; i < 199; i++) {
            x.buy(0, 1, 1);
            x.grind(i);
        }
        Due.is("one ounce of each of 199 lots", x.bake(0, 0, 199, 1), 199);
        Due.is("lots that gave", x.batch(199, 3), 199);
        for (int i : new int[] {0, 1, 99, 197, 198}) {
            Due.is("lot " + i, x.batch(199, 10 + 2 * i), i);
            Due.is("its ounce", x.batch(199, 11 + 2 * i), 1);
        }
        for (int what : new int[] {408, 409, 410, 411, 2147483646, 2147483647}) {
            Due.is("not so many: " + what, x.batch(199, what), NONE);
        }
    }

    private static void batchTakesOfTheFirstGroundLotFirst() {
        BreadLaw x = Town.withBakers(1);
        for (int i = 0; i < 3; i++) {
            x.buy(0, 10, 1);
        }
        x.grind(2);
        x.bake(0, 0, 1, 4);
        Due.is("of the only one", x.batch(3, 10), 2);
        x.grind(0);
        x.grind(1);
        x.bake(0, 0, 1, 6);
        Due.is("just the rest of the first: lots", x.batch(4, 3), 1);
        Due.is("just the rest of the first", x.batch(4, 10), 2);
        Due.is("just the rest of the first: ounces", x.batch(4, 11), 6);
        x.bake(0, 0, 1, 11);
        Due.is("the second and one ounce of the third: lots", x.batch(5, 3), 2);
        int[] gave = {0, 10, 1, 1, NONE, NONE};
        for (int i = 0; i < gave.length; i++) {
            Due.is("the second and the third " + i, x.batch(5, 10 + i), gave[i]);
        }
        Due.is("left of the third", x.lot(1, 3), 9);
    }

    private static void batchTellsWhatEachLotGave() {
        BreadLaw x = Town.withBakers(1);
        for (int i = 0; i < 100; i++) {
            x.buy(0, 2, 1);
            x.grind(i);
        }
        for (int i = 0; i < 66; i++) {
            Due.is("three ounces of lots of two", x.bake(0, 0, 1, 3), 100 + i);
        }
        for (int i = 0; i < 66; i += 7) {
            int first = 3 * i / 2;
            int ofFirst = i % 2 == 0 ? 2 : 1;
            int[] gave = {first, ofFirst, first + 1, 3 - ofFirst, NONE, NONE};
            Due.is("batch " + i + ": lots", x.batch(100 + i, 3), 2);
            for (int k = 0; k < gave.length; k++) {
                Due.is("batch " + i + ": " + k, x.batch(100 + i, 10 + k), gave[k]);
            }
        }
        Due.is("two ounces are left", x.about(0, 0), 2);
        Due.is("of the last lot", x.lot(99, 3), 2);
    }

    private static void flourIsOfItsBaker() {
        BreadLaw x = Town.withBakers(8);
        for (int baker = 0; baker < 8; baker++) {
            x.buy(baker, baker + 1, 1);
        }
        for (int lot = 7; lot >= 0; lot--) {
            x.grind(lot);
        }
        for (int baker = 0; baker < 8; baker++) {
            Due.is("another's flour", x.bake(baker, 0, 1, baker + 2), NO);
            Due.is("its own", x.bake(baker, 0, 1, baker + 1), 8 + baker);
            Due.is("the lot that gave", x.batch(8 + baker, 10), baker);
            Due.is("the baker of the batch", x.record(8 + baker, 3), baker);
        }
    }
}

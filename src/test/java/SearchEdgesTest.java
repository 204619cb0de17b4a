/** The edges of part 3 of the Terms: a method for each sentence that names some. RefusedTest has the wrong inputs. */
public final class SearchEdgesTest {
    private static final int STATE = -3, FULL = -4, NONE = -6;

    public static void main(String[] args) {
        firstRowsAsWorkedOutByHand();
        rowsOfEightFillTheBook();
        rowHasAllBakersAndIsThenUsedUp();
        rowOfOneBakerDrawsNothing();
        bakerThatCameMakesANewRow();
        bakersThatCameAheadOfAnyRow();
        bakerThatCameWhenTheRowWasUsedUp();
        turnDrawsARowIfThereIsNone();
        turnIsTheNextSearch();
        fullBookHasTurns();
        ageIsHoursSinceItWasBaked();
        greatestAge();
        dryIs1AtFirst();
        dryIs0To5();
        loafWeighsAtLeast0();
        weighedIsCut();
        askedIsAtLeast0();
        askedIsCut();
        shortIsBelowAsked();
        nothingIsNotBelowNothing();
        dueIsOfTheWeekOfBaking();
        textsAreAsTheyAreNow();
        allowanceIsOfThatText();
        latestBatchIsWeighed();
        bakerWithoutBatchesIsNotShort();
        fineIs12AtFirst();
        fineIs0To1000();
        fineIsDueOnceMoreEachTime();
        fineIsAsItIsNow();
        shortsAreOfEachBaker();
        finesOfAFullBook();
        barredWithTheFourth();
        barredTillTwoWeeksAreOver();
        barredAgainByEachLaterOne();
        barredBeyondTheLastWeek();
        barredFromBakingOnly();
        Due.end();
    }

    /** A row as the words draw it; s goes on in its only place. */
    private static int[] drawn(int bakers, long[] s) {
        int[] row = new int[bakers];
        for (int i = 0; i < bakers; i++) {
            row[i] = i;
        }
        for (int k = bakers - 1; k >= 1; k--) {
            s[0] = (s[0] * 1103515245L + 12345L) & 0x7fffffffL;
            int other = (int) ((s[0] / 65536) % (k + 1));
            int kept = row[k];
            row[k] = row[other];
            row[other] = kept;
        }
        return row;
    }

    private static void searchIsOf(String where, BreadLaw x, int baker) {
        Due.is(where, x.record(x.search(), 3), baker);
    }

    // s becomes 1103527590, 377401575, 662824084, 1147902781, 2035015474 ..; by 65536 16838, 5758, 10113, 17515, 31051.
    private static void firstRowsAsWorkedOutByHand() {
        BreadLaw two = Town.withBakers(2);
        for (int baker : new int[] {1, 0, 1, 0, 0, 1, 0, 1, 0, 1}) {
            searchIsOf("two bakers", two, baker);
        }
        BreadLaw three = Town.withBakers(3);
        for (int baker : new int[] {1, 0, 2, 2, 1, 0}) {
            searchIsOf("three bakers", three, baker);
        }
    }

    private static void rowsOfEightFillTheBook() {
        BreadLaw x = Town.withBakers(8);
        long[] s = {1};
        for (int round = 0; round < 25; round++) {
            int[] row = drawn(8, s);
            for (int i = 0; i < 8; i++) {
                searchIsOf("round " + round + ", place " + i, x, row[i]);
            }
        }
        Due.is("the book is full", x.search(), FULL);
        for (int baker = 0; baker < 8; baker++) {
            Due.is("each was searched in each round", x.about(baker, 3), 25);
        }
    }

    private static void rowHasAllBakersAndIsThenUsedUp() {
        for (int bakers = 1; bakers <= 8; bakers++) {
            BreadLaw x = Town.withBakers(bakers);
            long[] s = {1};
            for (int round = 1; round <= 3; round++) {
                int[] row = drawn(bakers, s);
                for (int i = 0; i < bakers; i++) {
                    searchIsOf(bakers + " bakers, round " + round, x, row[i]);
                }
                for (int baker = 0; baker < bakers; baker++) {
                    Due.is("searches of each", x.about(baker, 3), round);
                }
            }
        }
    }

    private static void rowOfOneBakerDrawsNothing() {
        BreadLaw x = Town.withBakers(1);
        for (int i = 0; i < 5; i++) {
            Due.is("one baker", x.turn(), 0);
            searchIsOf("one baker", x, 0);
        }
        x.baker();
        x.baker();
        int[] row = drawn(3, new long[] {1});
        for (int i = 0; i < 3; i++) {
            searchIsOf("s is still 1", x, row[i]);
        }
    }

    private static void bakerThatCameMakesANewRow() {
        for (int searched = 1; searched <= 4; searched++) {
            BreadLaw x = Town.withBakers(5);
            long[] s = {1};
            int[] row = drawn(5, s);
            for (int i = 0; i < searched; i++) {
                searchIsOf("the row of five", x, row[i]);
            }
            x.baker();
            row = drawn(6, s);
            for (int i = 0; i < 6; i++) {
                searchIsOf("the row of six behind " + searched, x, row[i]);
            }
            row = drawn(6, s);
            searchIsOf("the next row of six", x, row[0]);
        }
    }

    private static void bakersThatCameAheadOfAnyRow() {
        BreadLaw x = Town.withBakers(8);
        Due.is("one row for all of them", x.turn(), drawn(8, new long[] {1})[0]);
    }

    private static void bakerThatCameWhenTheRowWasUsedUp() {
        BreadLaw x = Town.withBakers(4);
        long[] s = {1};
        int[] row = drawn(4, s);
        for (int i = 0; i < 4; i++) {
            searchIsOf("the row of four", x, row[i]);
        }
        x.baker();
        x.baker();
        row = drawn(6, s);
        for (int i = 0; i < 6; i++) {
            searchIsOf("one row is drawn, not two", x, row[i]);
        }
    }

    private static void turnDrawsARowIfThereIsNone() {
        for (int used = 0; used <= 4; used += 4) {
            BreadLaw x = Town.withBakers(4);
            long[] s = {1};
            for (int i = 0; i < used; i++) {
                x.search();
            }
            if (used > 0) {
                drawn(4, s);
            }
            int[] row = drawn(4, s);
            Due.is("a row is drawn for it", x.turn(), row[0]);
            Due.is("once", x.turn(), row[0]);
            x.baker();
            row = drawn(5, s);
            Due.is("and another for the baker that came", x.turn(), row[0]);
        }
    }

    private static void turnIsTheNextSearch() {
        BreadLaw x = Town.withBakers(7);
        for (int i = 0; i < 21; i++) {
            int turn = x.turn();
            Due.is("asking does not move it", x.turn(), turn);
            searchIsOf("search " + i, x, turn);
        }
    }

    private static void fullBookHasTurns() {
        BreadLaw x = Town.withBakers(6);
        Town.fillBook(x);
        int[] row = drawn(6, new long[] {1});
        Due.is("turn", x.turn(), row[0]);
        Due.is("no search", x.search(), FULL);
        Due.is("the same turn", x.turn(), row[0]);
    }

    private static void ageIsHoursSinceItWasBaked() {
        int[] hours = {0, 1, 166, 167, 168, 169, 336, 999};
        for (int age : hours) {
            BreadLaw x = Town.withFlour(1);
            x.go(1);
            x.bake(0, 0, 1, 1000);
            if (age > 0) {
                x.go(age);
            }
            x.search();
            Due.is("age", x.found(2, 1), age);
            Due.is("weighed", x.found(2, 2), 1000 - age);
            Due.is("week", x.record(2, 1), (age + 1) / 168);
            Due.is("hour", x.record(2, 2), (age + 1) % 168);
        }
    }

    private static void greatestAge() {
        BreadLaw x = Town.withLoaf(2000, 5);
        x.text(1, 300, 300, 300, 0);
        x.step(1, 0, 1000);
        Town.goTo(x, Town.LAST_HOUR);
        int[] dries = {0, 1, 5};
        int[] weighed = {2000, 0, 0};
        for (int i = 0; i < dries.length; i++) {
            x.rules(dries[i], 1);
            x.search();
            Due.is("age", x.found(2 + i, 1), Town.LAST_HOUR);
            Due.is("weighed, dry " + dries[i], x.found(2 + i, 2), weighed[i]);
            Due.is("asked", x.found(2 + i, 3), 0);
            Due.is("not short", x.found(2 + i, 4), 0);
        }
        x.text(0, 300, 10, 10, 0);
        x.step(2, 0, 1000);
        x.search();
        Due.is("asked without allowance", x.found(5, 3), 3000);
        Due.is("short", x.found(5, 4), 1);
        x.rules(0, 1);
        x.search();
        Due.is("short even when it does not dry", x.found(6, 4), 1);
    }

    private static void dryIs1AtFirst() {
        BreadLaw x = Town.withLoaf(2000, 0);
        x.go(3);
        x.search();
        Due.is("three thousandths", x.found(2, 2), 1994);
    }

    private static void dryIs0To5() {
        BreadLaw x = Town.withLoaf(2000, 0);
        x.go(100);
        for (int dry = 0; dry <= 5; dry++) {
            Due.is("rules", x.rules(dry, 12), 1);
            x.search();
            Due.is("dry " + dry, x.found(2 + dry, 2), 2000 - 200 * dry);
        }
    }

    private static void loafWeighsAtLeast0() {
        int[] ages = {199, 200, 201, 400};
        int[] weighed = {10, 0, 0, 0};
        for (int i = 0; i < ages.length; i++) {
            BreadLaw x = Town.withLoaf(2000, 0);
            x.rules(5, 12);
            x.go(ages[i]);
            x.search();
            Due.is("age " + ages[i], x.found(2, 2), weighed[i]);
        }
        int[] later = {999, 1000, 1001, 5000};
        int[] left = {2, 0, 0, 0};
        for (int i = 0; i < later.length; i++) {
            BreadLaw x = Town.withLoaf(2000, 0);
            x.go(later[i]);
            x.search();
            Due.is("dry 1, age " + later[i], x.found(2, 2), left[i]);
        }
    }

    private static void weighedIsCut() {
        int[] weights = {1, 2, 999, 1000, 1001, 1999, 2000};
        int[] weighed = {0, 1, 998, 999, 999, 1997, 1998};
        for (int i = 0; i < weights.length; i++) {
            BreadLaw x = Town.withLoaf(weights[i], 0);
            x.go(1);
            x.search();
            Due.is("of " + weights[i], x.found(2, 2), weighed[i]);
        }
    }

    private static void askedIsAtLeast0() {
        int[] ages = {199, 200, 201, 400};
        int[] asked = {5, 0, 0, 0};
        for (int i = 0; i < ages.length; i++) {
            BreadLaw x = Town.withLoaf(1000, 5);
            x.rules(0, 12);
            x.go(ages[i]);
            x.search();
            Due.is("age " + ages[i], x.found(2, 3), asked[i]);
            Due.is("not short", x.found(2, 4), 0);
        }
    }

    private static void askedIsCut() {
        int[] ounces = {1, 2, 999, 1000};
        int[] asked = {0, 1, 998, 999};
        for (int i = 0; i < ounces.length; i++) {
            BreadLaw x = Town.withLoaf(1, 1);
            x.step(0, 0, ounces[i]);
            x.go(1);
            x.search();
            Due.is("of " + ounces[i], x.found(2, 3), asked[i]);
        }
    }

    private static void shortIsBelowAsked() {
        int[] weights = {999, 1000, 1001};
        for (int weight : weights) {
            BreadLaw x = Town.withLoaf(weight, 0);
            x.search();
            Due.is("weighed", x.found(2, 2), weight);
            Due.is("asked", x.found(2, 3), 1000);
            Due.is("short, weight " + weight, x.found(2, 4), weight < 1000 ? 1 : 0);
            Due.is("how often", x.about(0, 4), weight < 1000 ? 1 : 0);
        }
        // 998 of 998.001, which is cut.
        BreadLaw cut = Town.withLoaf(1000, 1);
        cut.step(0, 0, 999);
        cut.rules(2, 12);
        cut.go(1);
        cut.search();
        Due.is("weighed", cut.found(2, 2), 998);
        Due.is("asked", cut.found(2, 3), 998);
        Due.is("not short", cut.found(2, 4), 0);
    }

    private static void nothingIsNotBelowNothing() {
        BreadLaw x = Town.withLoaf(2000, 5);
        x.rules(5, 12);
        x.go(200);
        x.search();
        Due.is("weighed", x.found(2, 2), 0);
        Due.is("asked", x.found(2, 3), 0);
        Due.is("not short", x.found(2, 4), 0);
        Due.is("no fine", x.found(2, 5), 0);
    }

    private static void dueIsOfTheWeekOfBaking() {
        BreadLaw x = Town.withFlour(1);
        x.text(0, 100, 50, 10, 0);
        x.step(0, 0, 1);
        x.step(0, 100, 100);
        x.step(0, 500, 500);
        x.text(2, 100, 100, 100, 0);
        x.step(1, 0, 1000);
        x.go(167);
        x.buy(0, 100000, 900);
        x.bake(0, 1, 1, 2000);
        x.go(168);
        x.bake(0, 1, 1, 2000);
        x.search();
        Due.is("baked in week 1, price of week 0 is 500", x.found(4, 3), 250);
        x.buy(0, 1, 1);
        x.go(1);
        x.search();
        Due.is("searched in week 2", x.record(6, 1), 2);
        Due.is("neither the text of week 2 nor the price of week 1", x.found(6, 3), 250);
        x.bake(0, 1, 1, 2000);
        x.search();
        Due.is("baked in week 2", x.found(8, 3), 1000);
    }

    private static void textsAreAsTheyAreNow() {
        BreadLaw x = Town.withFlour(1);
        x.bake(0, 0, 1, 500);
        x.search();
        Due.is("no text", x.found(2, 3), 0);
        x.go(168 * 3);
        x.text(0, 100, 100, 100, 0);
        x.search();
        Due.is("a text without a step", x.found(3, 3), 0);
        x.step(0, 100, 600);
        x.search();
        Due.is("a step told later", x.found(4, 3), 600);
        Due.is("short", x.found(4, 4), 1);
        x.text(0, 50, 100, 100, 0);
        x.step(1, 0, 600);
        x.rules(0, 12);
        x.search();
        Due.is("a text told later for the same week", x.found(5, 3), 300);
        Due.is("not short", x.found(5, 4), 0);
        x.text(1, 300, 300, 300, 0);
        x.step(2, 0, 1000);
        x.search();
        Due.is("not that of a later week", x.found(6, 3), 300);
        Due.is("searches ahead are as they were", x.found(4, 3), 600);
        Due.is("one was short", x.about(0, 4), 1);
    }

    private static void allowanceIsOfThatText() {
        BreadLaw x = Town.withLoaf(1000, 3);
        x.text(1, 100, 100, 100, 5);
        x.step(1, 0, 1000);
        x.go(200);
        x.search();
        Due.is("of the text in force when it was baked", x.found(2, 3), 400);
        x.text(0, 100, 100, 100, 1);
        x.step(2, 0, 1000);
        x.search();
        Due.is("of the one told later", x.found(3, 3), 800);
    }

    private static void latestBatchIsWeighed() {
        BreadLaw x = Town.withBakers(2);
        x.buy(0, 100000, 100);
        x.buy(1, 100000, 100);
        x.grind(0);
        x.grind(1);
        x.bake(0, 0, 1, 10);
        x.bake(0, 1, 7, 20);
        x.bake(1, 2, 1, 30);
        int[] latest = {3, 4};
        int[] weights = {20, 30};
        for (int i = 0; i < 4; i++) {
            int search = x.search();
            int baker = x.record(search, 3);
            Due.is("latest batch", x.found(search, 0), latest[baker]);
            Due.is("latest batch", x.about(baker, 7), latest[baker]);
            Due.is("one loaf of it", x.found(search, 2), weights[baker]);
        }
    }

    private static void bakerWithoutBatchesIsNotShort() {
        BreadLaw x = Town.withFlour(1);
        x.text(0, 300, 300, 300, 0);
        x.step(0, 0, 1000);
        x.go(300);
        x.search();
        int[] without = {NONE, 0, 0, 0, 0, 0};
        for (int what = 0; what < without.length; what++) {
            Due.is("found " + what, x.found(1, what), without[what]);
        }
        int[] about = {93750, 1, 0, 1, 0, 0, 0, NONE};
        for (int what = 0; what < about.length; what++) {
            Due.is("about " + what, x.about(0, what), about[what]);
        }
    }

    private static void fineIs12AtFirst() {
        BreadLaw x = Town.withLoaf(999, 0);
        x.search();
        Due.is("the first", x.found(2, 5), 12);
        Due.is("in all", x.about(0, 5), 12);
    }

    private static void fineIs0To1000() {
        BreadLaw x = Town.withLoaf(999, 0);
        Due.is("the least", x.rules(1, 0), 1);
        x.search();
        Due.is("the least", x.found(2, 5), 0);
        Due.is("short all the same", x.found(2, 4), 1);
        Due.is("short all the same", x.about(0, 4), 1);
        Due.is("the most", x.rules(1, 1000), 1);
        x.search();
        Due.is("the most, twice", x.found(3, 5), 2000);
        Due.is("in all", x.about(0, 5), 2000);
    }

    private static void fineIsDueOnceMoreEachTime() {
        BreadLaw x = Town.withLoaf(999, 0);
        x.rules(0, 7);
        int[] times = {1, 2, 3, 4, 4, 4, 4};
        int inAll = 0;
        for (int i = 0; i < times.length; i++) {
            x.search();
            inAll += 7 * times[i];
            Due.is("fine " + i, x.found(2 + i, 5), 7 * times[i]);
            Due.is("how often", x.about(0, 4), i + 1);
            Due.is("in all", x.about(0, 5), inAll);
        }
        // After an hour it is short by rule 1 and not by rule 0.
        BreadLaw between = Town.withLoaf(1000, 0);
        between.go(1);
        for (int i = 0; i < 10; i++) {
            between.rules(i % 2, 12);
            between.search();
            int fine = i % 2 == 0 ? 0 : 12 * Math.min(4, i / 2 + 1);
            Due.is("searches that found nothing do not count: " + i, between.found(2 + i, 5), fine);
        }
    }

    private static void fineIsAsItIsNow() {
        BreadLaw x = Town.withLoaf(999, 0);
        int[] fine = {10, 100, 1, 0, 1000};
        int[] due = {10, 200, 3, 0, 4000};
        for (int i = 0; i < fine.length; i++) {
            x.rules(1, fine[i]);
            x.search();
            Due.is("fine " + i, x.found(2 + i, 5), due[i]);
        }
        Due.is("in all", x.about(0, 5), 4213);
        Due.is("the first is as it was", x.found(2, 5), 10);
    }

    private static void shortsAreOfEachBaker() {
        BreadLaw x = Town.withBakers(3);
        x.text(0, 100, 100, 100, 0);
        x.step(0, 0, 100);
        for (int baker = 0; baker < 3; baker++) {
            x.buy(baker, 1000, 1);
            x.grind(baker);
        }
        x.bake(0, 0, 1, 99);
        x.bake(1, 0, 1, 100);
        x.bake(2, 0, 1, 98);
        for (int i = 0; i < 12; i++) {
            int search = x.search();
            int baker = x.record(search, 3);
            int times = baker == 1 ? 0 : i / 3 + 1;
            Due.is("fine of baker " + baker, x.found(search, 5), 12 * times);
        }
        for (int baker = 0; baker < 3; baker++) {
            Due.is("how often", x.about(baker, 4), baker == 1 ? 0 : 4);
            Due.is("in all", x.about(baker, 5), baker == 1 ? 0 : 120);
            Due.is("barred", x.about(baker, 6), baker == 1 ? 0 : 2);
            Due.is("barred", x.bake(baker, 0, 1, 1) == STATE ? 1 : 0, baker == 1 ? 0 : 1);
        }
    }

    private static void finesOfAFullBook() {
        BreadLaw x = Town.withLoaf(999, 0);
        x.rules(5, 1000);
        for (int i = 2; i < 200; i++) {
            x.search();
        }
        Due.is("full", x.search(), FULL);
        Due.is("searches", x.about(0, 3), 198);
        Due.is("how often", x.about(0, 4), 198);
        Due.is("in all", x.about(0, 5), 6000 + 195 * 4000);
    }

    private static void barredWithTheFourth() {
        BreadLaw x = Town.withLoaf(999, 0);
        for (int i = 1; i <= 3; i++) {
            x.search();
            Due.is("not yet, shorts " + i, x.about(0, 6), 0);
        }
        Due.is("it may bake", x.bake(0, 0, 1, 999), 5);
        x.search();
        Due.is("with the fourth", x.about(0, 6), 2);
        Due.is("barred", x.bake(0, 0, 1, 999), STATE);
    }

    private static void barredTillTwoWeeksAreOver() {
        for (int hour : new int[] {0, 1, 100, 167}) {
            BreadLaw x = Town.withLoaf(999, 0);
            Town.goTo(x, 7, hour);
            for (int i = 0; i < 4; i++) {
                x.search();
            }
            Due.is("from week 9 on", x.about(0, 6), 9);
            Due.is("at once", x.bake(0, 0, 1, 1), STATE);
            Town.goTo(x, 8, 0);
            Due.is("the week behind", x.bake(0, 0, 1, 1), STATE);
            Town.goTo(x, 8, 167);
            Due.is("its last hour", x.bake(0, 0, 1, 1), STATE);
            x.go(1);
            Due.is("two weeks are over", x.bake(0, 0, 1, 1), 6);
        }
    }

    private static void barredAgainByEachLaterOne() {
        BreadLaw x = Town.barred();
        Town.goTo(x, 1, 0);
        x.search();
        Due.is("the fifth", x.about(0, 6), 3);
        Town.goTo(x, 2, 0);
        Due.is("still barred", x.bake(0, 0, 1, 1), STATE);
        Town.goTo(x, 3, 0);
        Due.is("not barred", x.bake(0, 0, 1, 2000), 7);
        x.search();
        Due.is("not short", x.found(8, 4), 0);
        Due.is("and not barred", x.bake(0, 0, 1, 999), 9);
        x.search();
        Due.is("the sixth", x.about(0, 4), 6);
        Due.is("barred at once", x.about(0, 6), 5);
        Due.is("barred at once", x.bake(0, 0, 1, 999), STATE);
        x.rules(0, 0);
        x.text(0, 10, 10, 10, 0);
        x.search();
        Due.is("not short now", x.found(11, 4), 0);
        Due.is("that does not free it", x.bake(0, 0, 1, 999), STATE);
    }

    private static void barredBeyondTheLastWeek() {
        for (int week = 197; week <= 199; week++) {
            BreadLaw x = Town.withLoaf(999, 0);
            Town.goTo(x, week, 5);
            for (int i = 0; i < 4; i++) {
                x.search();
            }
            Due.is("barred in week " + week, x.about(0, 6), week + 2);
            Town.goTo(x, 199, 167);
            Due.is("in the last hour", x.bake(0, 0, 1, 1), week == 197 ? 6 : STATE);
        }
    }

    private static void barredFromBakingOnly() {
        BreadLaw x = Town.barred();
        Due.is("it buys", x.buy(0, 10, 1), 6);
        Due.is("it grinds", x.grind(6), 0);
        Due.is("it is searched", x.search(), 7);
        Due.is("another came", x.baker(), 1);
        x.buy(1, 10, 1);
        x.grind(8);
        Due.is("another bakes", x.bake(1, 0, 1, 1), 9);
        Due.is("it does not", x.bake(0, 0, 1, 1), STATE);
    }
}

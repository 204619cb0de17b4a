/** The edges of part 4 of the Terms: a method for each sentence that names some. RefusedTest has the wrong inputs. */
public final class StoreEdgesTest {
    private static final int NO = -5, FULL = -4, STATE = -3, NONE = -6;

    public static void main(String[] args) {
        storeIs0AtFirst();
        oneTo10000000ComeIntoTheStore();
        storeHolds100000000();
        mouthsAre0AtFirst();
        mouthsAre0To10000();
        eachIsOneTo1000();
        rationIs100AtFirst();
        rationIsOneTo100();
        needIsCut();
        needIsTakenAtTheEndOfAWeek();
        needIsTakenForEachWeekOfALongGo();
        needIsAsThingsAreAtTheEnd();
        allThereIsIsTaken();
        needOfNothingIsNoHunger();
        lastWeekDoesNotEnd();
        harvestHasOneTo10000000Ounces();
        harvestIsOfALaterWeek();
        harvestComesAtTheBeginning();
        harvestComesBehindTheEndOfTheWeekAhead();
        harvestsOfSeveralWeeksInOneGo();
        harvestOfTheLastWeek();
        harvestsAreTenAtMost();
        harvestsOfOneWeekComeTogether();
        whatComesBeyondIsLost();
        foretellIsFromNow();
        foretellIsTo199();
        foretellCountsHarvests();
        foretellLosesWhatIsBeyond();
        foretellIsByItsOwnRation();
        foretellIsWhatComes();
        orderIsOneTo100();
        orderIsNoneWhenTheLeastIsTooMuch();
        orderOfANeedThatIsCutTo0();
        orderIsFromNowTo199();
        orderCountsHarvestsUpToTheWeek();
        orderLosesWhatIsBeyond();
        orderIsTheGreatestByForetell();
        Due.end();
    }

    private static BreadLaw withStore(int ounces) {
        BreadLaw x = new BreadLaw();
        for (int left = ounces; left > 0; left -= 10000000) {
            x.store(Math.min(left, 10000000));
        }
        Due.is("withStore", x.told(6), ounces);
        return x;
    }

    private static void isNow(String where, BreadLaw x, int ounces, int hunger) {
        Due.is(where + ": store", x.told(6), ounces);
        Due.is(where + ": hunger", x.told(7), hunger);
    }

    private static void storeIs0AtFirst() {
        BreadLaw x = new BreadLaw();
        isNow("at first", x, 0, 0);
        Due.is("the first ounce", x.store(1), 1);
    }

    private static void oneTo10000000ComeIntoTheStore() {
        BreadLaw x = new BreadLaw();
        Due.is("the most", x.store(10000000), 10000000);
        Due.is("the least", x.store(1), 10000001);
        Due.is("one less than the most", x.store(9999999), 20000000);
        isNow("all of it", x, 20000000, 0);
    }

    private static void storeHolds100000000() {
        BreadLaw x = withStore(99999998);
        Due.is("two too many", x.store(4), FULL);
        Due.is("one too many", x.store(3), FULL);
        isNow("nothing came", x, 99999998, 0);
        Due.is("one less", x.store(1), 99999999);
        Due.is("all it holds", x.store(1), 100000000);
        Due.is("one more", x.store(1), FULL);
        x.mouths(1, 1);
        x.go(168);
        isNow("an ounce was eaten", x, 99999999, 0);
        Due.is("two do not fit", x.store(2), FULL);
        Due.is("one fits again", x.store(1), 100000000);
    }

    private static void mouthsAre0AtFirst() {
        BreadLaw x = new BreadLaw();
        Due.is("nobody is hungry", x.foretell(100), NONE);
        x.go(5000);
        isNow("nobody was hungry", x, 0, 0);
        x.store(5);
        x.go(5000);
        isNow("nobody ate", x, 5, 0);
    }

    private static void mouthsAre0To10000() {
        BreadLaw x = withStore(30000);
        Due.is("the most", x.mouths(10000, 1), 1);
        x.go(168);
        isNow("the most", x, 20000, 0);
        Due.is("one less", x.mouths(9999, 1), 1);
        x.go(168);
        isNow("one less", x, 10001, 0);
        Due.is("one", x.mouths(1, 1), 1);
        x.go(168);
        isNow("one", x, 10000, 0);
        Due.is("none", x.mouths(0, 1000), 1);
        x.go(168);
        isNow("none", x, 10000, 0);
    }

    private static void eachIsOneTo1000() {
        BreadLaw x = withStore(100000000);
        Due.is("the most of all", x.mouths(10000, 1000), 1);
        x.go(168);
        isNow("the most of all", x, 90000000, 0);
        Due.is("one less", x.mouths(10000, 999), 1);
        x.go(168);
        isNow("one less", x, 80010000, 0);
        Due.is("the least", x.mouths(10000, 1), 1);
        x.go(168);
        isNow("the least", x, 80000000, 0);
    }

    private static void rationIs100AtFirst() {
        BreadLaw x = withStore(1000);
        Due.is("told", x.told(8), 100);
        x.mouths(1, 100);
        x.go(168);
        isNow("a whole one", x, 900, 0);
        Due.is("which it was", x.ration(100), 100);
    }

    private static void rationIsOneTo100() {
        BreadLaw x = withStore(1000);
        x.mouths(1, 100);
        int before = 100;
        int left = 1000;
        for (int ration : new int[] {1, 2, 99, 100, 50}) {
            Due.is("which it was", x.ration(ration), before);
            Due.is("told", x.told(8), ration);
            x.go(168);
            left -= ration;
            isNow("ration " + ration, x, left, 0);
            before = ration;
        }
    }

    private static void needIsCut() {
        int[][] rows = {{1, 1, 99, 0}, {1, 1, 100, 1}, {1, 99, 1, 0}, {1, 100, 1, 1}, {3, 7, 50, 10}, {199, 1, 1, 1},
            {1, 199, 1, 1}, {33, 3, 99, 98}, {10000, 1000, 1, 100000}, {9999, 999, 99, 9889110}};
        for (int[] row : rows) {
            BreadLaw x = withStore(20000000);
            x.mouths(row[0], row[1]);
            x.ration(row[2]);
            x.go(168);
            isNow(row[0] + " by " + row[1] + " by " + row[2], x, 20000000 - row[3], 0);
        }
    }

    private static void needIsTakenAtTheEndOfAWeek() {
        BreadLaw x = withStore(1000);
        x.mouths(1, 100);
        x.go(1);
        isNow("an hour", x, 1000, 0);
        x.go(166);
        isNow("the last hour", x, 1000, 0);
        x.go(1);
        isNow("the week is over", x, 900, 0);
        x.go(167);
        isNow("the last hour of the next", x, 900, 0);
        x.go(168);
        isNow("from last hour to last hour", x, 800, 0);
    }

    private static void needIsTakenForEachWeekOfALongGo() {
        BreadLaw x = withStore(2950);
        x.mouths(1, 100);
        x.go(5000);
        isNow("29 weeks", x, 50, 0);
        x.go(5000);
        isNow("59 weeks", x, 0, 30);
        BreadLaw y = withStore(2950);
        y.mouths(1, 100);
        for (int i = 0; i < 250; i++) {
            y.go(40);
        }
        isNow("59 weeks, in small steps", y, 0, 30);
    }

    private static void needIsAsThingsAreAtTheEnd() {
        BreadLaw x = withStore(1000);
        x.mouths(10, 100);
        x.go(167);
        x.mouths(1, 100);
        x.ration(30);
        x.go(1);
        isNow("as told last", x, 970, 0);
        x.mouths(9, 100);
        x.ration(100);
        isNow("the week that is over stays", x, 970, 0);
        x.go(168);
        isNow("and then as told", x, 70, 0);
    }

    private static void allThereIsIsTaken() {
        int[] stored = {0, 1, 99, 100, 101};
        int[] left = {0, 0, 0, 0, 1};
        int[] hunger = {1, 1, 1, 0, 0};
        for (int i = 0; i < stored.length; i++) {
            BreadLaw x = withStore(stored[i]);
            x.mouths(1, 100);
            x.go(168);
            isNow("of " + stored[i], x, left[i], hunger[i]);
            x.go(168);
            isNow("a week later", x, 0, hunger[i] + 1);
        }
    }

    private static void needOfNothingIsNoHunger() {
        BreadLaw x = new BreadLaw();
        x.mouths(1, 99);
        x.ration(1);
        x.go(5000);
        isNow("a need that is cut to 0", x, 0, 0);
        x.ration(2);
        x.go(168);
        isNow("a need of 1", x, 0, 1);
        x.mouths(0, 1000);
        x.go(168);
        isNow("no mouths", x, 0, 1);
    }

    private static void lastWeekDoesNotEnd() {
        BreadLaw x = new BreadLaw();
        x.mouths(1, 1);
        Town.goTo(x, 199, 0);
        isNow("199 weeks are over", x, 0, 199);
        x.store(7);
        Town.goTo(x, 199, 167);
        isNow("the last hour", x, 7, 199);
        Due.is("no more", x.go(1), STATE);
        isNow("still the last hour", x, 7, 199);
    }

    private static void harvestHasOneTo10000000Ounces() {
        BreadLaw x = new BreadLaw();
        Due.is("none to come", x.told(9), 0);
        Due.is("the least", x.harvest(1, 1), 1);
        Due.is("the most", x.harvest(2, 10000000), 2);
        x.go(168);
        isNow("the least came", x, 1, 0);
        x.go(168);
        isNow("the most came", x, 10000001, 0);
        Due.is("none to come", x.told(9), 0);
    }

    private static void harvestIsOfALaterWeek() {
        BreadLaw x = new BreadLaw();
        for (int week = 0; week < 40; week++) {
            Due.is("today's week " + week, x.harvest(week, 1), NO);
            Due.is("the first one", x.harvest(0, 1), NO);
            Due.is("the next one", x.harvest(week + 1, 1), 1);
            x.go(167);
            Due.is("today's week in its last hour", x.harvest(week, 1), NO);
            x.go(1);
            Due.is("it came", x.told(9), 0);
            Due.is("it came", x.told(6), week + 1);
        }
    }

    private static void harvestComesAtTheBeginning() {
        BreadLaw x = new BreadLaw();
        x.harvest(2, 70);
        Town.goTo(x, 1, 167);
        isNow("the hour ahead", x, 0, 0);
        Due.is("to come", x.told(9), 1);
        x.go(1);
        isNow("its first hour", x, 70, 0);
        Due.is("to come", x.told(9), 0);
        x.go(167);
        isNow("its last hour", x, 70, 0);
        x.go(1);
        isNow("it comes once", x, 70, 0);
    }

    private static void harvestComesBehindTheEndOfTheWeekAhead() {
        BreadLaw x = new BreadLaw();
        x.mouths(1, 100);
        x.harvest(1, 100);
        x.go(168);
        isNow("too late for the week ahead", x, 100, 1);
        x.go(168);
        isNow("enough for its own", x, 0, 1);
    }

    private static void harvestsOfSeveralWeeksInOneGo() {
        BreadLaw x = new BreadLaw();
        x.mouths(1, 100);
        x.harvest(3, 200);
        x.harvest(10, 50);
        x.harvest(20, 1000);
        x.go(5000);
        // Hungry in 0 to 2, 5 to 19 (in 10 half of it was there); 20 to 28 were not.
        isNow("29 weeks", x, 100, 18);
        Due.is("none to come", x.told(9), 0);
    }

    private static void harvestOfTheLastWeek() {
        BreadLaw x = new BreadLaw();
        Due.is("of the last week", x.harvest(199, 9), 1);
        Town.goTo(x, 198, 0);
        Due.is("one more", x.harvest(199, 90), 2);
        Town.goTo(x, 198, 167);
        isNow("not yet", x, 0, 0);
        x.go(1);
        isNow("they came", x, 99, 0);
        Due.is("none to come", x.told(9), 0);
        Due.is("there is no later week", x.harvest(199, 1), NO);
    }

    private static void harvestsAreTenAtMost() {
        BreadLaw x = new BreadLaw();
        for (int i = 1; i <= 10; i++) {
            Due.is("a harvest", x.harvest(i, i), i);
            Due.is("to come", x.told(9), i);
        }
        Due.is("an eleventh", x.harvest(11, 1), FULL);
        Due.is("to come", x.told(9), 10);
        x.go(168);
        Due.is("one came", x.told(9), 9);
        Due.is("there is room for one", x.harvest(199, 1), 10);
        Due.is("and for no more", x.harvest(199, 1), FULL);
        Town.goTo(x, 10, 0);
        isNow("ten came", x, 55, 0);
        Due.is("to come", x.told(9), 1);
    }

    private static void harvestsOfOneWeekComeTogether() {
        BreadLaw x = new BreadLaw();
        for (int i = 1; i <= 10; i++) {
            Due.is("a harvest", x.harvest(i == 4 ? 6 : 5, i), i);
        }
        Due.is("an eleventh", x.harvest(5, 1), FULL);
        Town.goTo(x, 5, 0);
        isNow("nine came", x, 51, 0);
        Due.is("to come", x.told(9), 1);
        x.go(168);
        isNow("and the last", x, 55, 0);
        Due.is("to come", x.told(9), 0);
    }

    private static void whatComesBeyondIsLost() {
        BreadLaw x = withStore(99999990);
        Due.is("just enough", x.harvest(1, 10), 1);
        Due.is("a harvest is not refused for it", x.harvest(2, 1), 2);
        Due.is("nor the most", x.harvest(3, 10000000), 3);
        for (int week = 1; week <= 3; week++) {
            x.go(168);
            isNow("week " + week, x, 100000000, 0);
        }
        x.mouths(1, 100);
        x.harvest(4, 99);
        x.go(168);
        isNow("eaten ahead of it", x, 99999999, 0);
        x.harvest(5, 102);
        x.go(168);
        isNow("one is lost", x, 100000000, 0);
        BreadLaw y = withStore(100000000);
        for (int i = 0; i < 10; i++) {
            y.harvest(1, 10000000);
        }
        y.go(168);
        isNow("all of ten is lost", y, 100000000, 0);
    }

    private static void foretellIsFromNow() {
        BreadLaw x = new BreadLaw();
        x.mouths(1, 100);
        for (int week = 0; week < 199; week += 33) {
            Town.goTo(x, week, 167);
            Due.is("today's week", x.foretell(1), week);
            Due.is("today's week", x.foretell(100), week);
        }
        int[] stored = {99, 100, 199, 200};
        int[] first = {3, 4, 4, 5};
        for (int i = 0; i < stored.length; i++) {
            BreadLaw y = withStore(stored[i]);
            y.go(168 * 3 + 50);
            y.mouths(1, 100);
            Due.is("of " + stored[i], y.foretell(100), first[i]);
        }
    }

    private static void foretellIsTo199() {
        int[] weeks = {0, 1, 100, 198, 199};
        for (int week : weeks) {
            int all = (200 - week) * 100;
            BreadLaw enough = withStore(all);
            BreadLaw tooLittle = withStore(all - 1);
            Town.goTo(enough, week, 0);
            Town.goTo(tooLittle, week, 167);
            enough.mouths(1, 100);
            tooLittle.mouths(1, 100);
            Due.is("enough from week " + week, enough.foretell(100), NONE);
            Due.is("an ounce too little from week " + week, tooLittle.foretell(100), 199);
        }
    }

    private static void foretellCountsHarvests() {
        BreadLaw x = withStore(500);
        x.mouths(1, 100);
        Due.is("without", x.foretell(100), 5);
        x.harvest(6, 10000);
        Due.is("too late", x.foretell(100), 5);
        x.harvest(5, 99);
        Due.is("an ounce too little", x.foretell(100), 5);
        x.harvest(5, 1);
        Due.is("at the beginning of the week", x.foretell(100), 106);
        x.harvest(199, 10000000);
        Due.is("too late", x.foretell(100), 106);
        x.harvest(106, 9300);
        Due.is("to the last week", x.foretell(100), NONE);
        Due.is("they are still to come", x.told(9), 5);
        isNow("nothing came", x, 500, 0);

        BreadLaw last = withStore(19900);
        last.mouths(1, 100);
        Due.is("the last week", last.foretell(100), 199);
        last.harvest(199, 99);
        Due.is("an ounce too little", last.foretell(100), 199);
        last.harvest(199, 1);
        Due.is("just enough", last.foretell(100), NONE);
    }

    private static void foretellLosesWhatIsBeyond() {
        BreadLaw x = withStore(100000000);
        x.mouths(10000, 1000);
        Due.is("ten weeks", x.foretell(100), 10);
        x.harvest(1, 10000000);
        Due.is("there is room for one", x.foretell(100), 11);
        x.harvest(1, 10000000);
        Due.is("not for another", x.foretell(100), 11);
        x.harvest(2, 10000000);
        Due.is("a week later there is", x.foretell(100), 12);
        x.go(168);
        Due.is("the same a week later", x.foretell(100), 12);
        isNow("full", x, 100000000, 0);

        BreadLaw y = withStore(100000000);
        y.harvest(1, 10000000);
        y.go(1);
        y.mouths(10000, 999);
        Due.is("a bit of the harvest is lost", y.foretell(100), 11);
        y.go(168);
        isNow("a bit of the harvest is lost", y, 100000000, 0);
    }

    private static void foretellIsByItsOwnRation() {
        BreadLaw x = withStore(1000);
        x.mouths(1, 100);
        x.ration(50);
        int[] rations = {1, 5, 10, 33, 50, 99, 100};
        int[] first = {NONE, NONE, 100, 30, 20, 10, 10};
        for (int i = 0; i < rations.length; i++) {
            Due.is("ration " + rations[i], x.foretell(rations[i]), first[i]);
        }
        Due.is("the ration is as it was", x.told(8), 50);
        isNow("nothing was eaten", x, 1000, 0);
    }

    private static void foretellIsWhatComes() {
        for (int ration : new int[] {1, 37, 100}) {
            BreadLaw x = withStore(1234);
            x.mouths(7, 13);
            x.ration(ration);
            x.harvest(17, 555);
            x.harvest(20, 3333);
            x.harvest(90, 1);
            int first = x.foretell(ration);
            for (int week = 0; week < 199; week++) {
                x.go(168);
                if (week <= first || first == NONE) {
                    Due.is("hungry, ration " + ration + ", week " + week, x.told(7), week == first ? 1 : 0);
                }
            }
        }
    }

    private static void orderIsOneTo100() {
        Due.is("no mouths, no store", new BreadLaw().order(199), 100);
        for (int ration = 1; ration <= 100; ration++) {
            BreadLaw x = withStore(100 * ration);
            x.mouths(100, 100);
            Due.is("just enough for " + ration, x.order(0), ration);
            BreadLaw y = withStore(100 * ration - 1);
            y.mouths(100, 100);
            Due.is("an ounce too little for " + ration, y.order(0), ration == 1 ? NONE : ration - 1);
        }
        BreadLaw more = withStore(10100);
        more.mouths(100, 100);
        Due.is("more than enough", more.order(0), 100);
    }

    private static void orderIsNoneWhenTheLeastIsTooMuch() {
        BreadLaw x = new BreadLaw();
        x.mouths(1, 100);
        Due.is("nothing is there", x.order(0), NONE);
        x.store(1);
        Due.is("an ounce for a week", x.order(0), 1);
        Due.is("none for two", x.order(1), NONE);
        x.harvest(1, 1);
        Due.is("one for two", x.order(1), 1);
        Due.is("none for three", x.order(2), NONE);
        x.go(168);
        isNow("the harvest came behind hunger", x, 1, 1);
        Due.is("the weeks that are over do not count", x.order(1), 1);
    }

    private static void orderOfANeedThatIsCutTo0() {
        int[] each = {100, 99, 50, 34, 10, 2, 1};
        int[] greatest = {NONE, 1, 1, 2, 9, 49, 99};
        for (int i = 0; i < each.length; i++) {
            BreadLaw x = new BreadLaw();
            x.mouths(1, each[i]);
            Due.is("nothing is needed of " + each[i], x.order(199), greatest[i]);
        }
    }

    private static void orderIsFromNowTo199() {
        BreadLaw x = withStore(20000);
        x.mouths(1, 100);
        Due.is("all 200 weeks", x.order(199), 100);
        x.ration(1);
        Town.goTo(x, 100, 0);
        isNow("100 weeks later", x, 19900, 0);
        Due.is("today's week", x.order(100), 100);
        Due.is("the last week", x.order(199), 100);
        BreadLaw y = withStore(9999);
        Town.goTo(y, 100, 0);
        y.mouths(1, 100);
        Due.is("all but the last", y.order(198), 100);
        Due.is("the last too", y.order(199), 99);
        BreadLaw last = withStore(49);
        Town.goTo(last, 199, 167);
        last.mouths(1, 100);
        Due.is("the last week alone", last.order(199), 49);
    }

    private static void orderCountsHarvestsUpToTheWeek() {
        BreadLaw x = withStore(300);
        x.mouths(1, 100);
        Due.is("three weeks", x.order(2), 100);
        Due.is("six weeks", x.order(5), 50);
        x.harvest(6, 10000000);
        Due.is("a harvest behind it", x.order(5), 50);
        Due.is("the week of the harvest", x.order(6), 50);
        Due.is("long behind it", x.order(199), 50);
        x.harvest(5, 100);
        Due.is("one in it", x.order(5), 60);
        x.harvest(3, 100);
        Due.is("one ahead", x.order(5), 80);
        Due.is("ahead of that one", x.order(2), 100);
        Due.is("they are still to come", x.told(9), 3);
    }

    private static void orderLosesWhatIsBeyond() {
        BreadLaw x = withStore(100000000);
        x.mouths(10000, 1000);
        for (int i = 0; i < 10; i++) {
            x.harvest(1, 10000000);
        }
        Due.is("eleven weeks", x.order(10), 100);
        // Only what week 0 took comes in again: a full store is there for the weeks behind it.
        Due.is("twelve weeks", x.order(11), 90);
        Due.is("twenty weeks", x.order(19), 52);
    }

    private static void orderIsTheGreatestByForetell() {
        BreadLaw x = withStore(98765);
        x.mouths(123, 45);
        x.harvest(7, 4321);
        x.harvest(30, 77777);
        for (int week = 0; week < 200; week += 5) {
            int greatest = x.order(week);
            int good = x.foretell(Math.max(1, greatest));
            Due.holds("with it none up to week " + week, greatest == NONE || good == NONE || good > week);
            int bad = x.foretell(greatest == NONE ? 1 : Math.min(100, greatest + 1));
            Due.holds("with more one up to week " + week, greatest == 100 || bad != NONE && bad <= week);
        }
    }
}

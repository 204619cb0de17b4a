import java.util.function.Supplier;
import java.util.function.ToIntFunction;

/**
 * Calls that are refused: what they answer, which answer comes first where two fit, and "They change
 * nothing": the object is asked all there is to ask, and so is a twin that never got the refused call.
 */
public final class RefusedTest {
    private static final int UNKNOWN = -1, OUTSIDE = -2, STATE = -3, FULL = -4, NO = -5;
    private static final int LEAST = Integer.MIN_VALUE, MOST = Integer.MAX_VALUE;
    // What a full book and the longest row of questions leave of 512 calls.
    private static final int MANY = 61;

    public static void main(String[] args) {
        go();
        baker();
        buy();
        grind();
        dish();
        price();
        text();
        step();
        inForce();
        due();
        bakeUnknownOrOutside();
        bakeBarredFullOrNoFlour();
        search();
        turn();
        rules();
        record();
        lot();
        batch();
        found();
        about();
        store();
        mouths();
        ration();
        harvest();
        foretell();
        order();
        told();
        askingChangesNothing();
        Due.end();
    }

    private static void refused(String where, Supplier<BreadLaw> made, ToIntFunction<BreadLaw> call, int want) {
        refusedTimes(1, where, made, call, want);
        refusedTimes(MANY, where + ", many times", made, call, want);
    }

    private static void refusedTimes(int times, String where, Supplier<BreadLaw> made, ToIntFunction<BreadLaw> call,
            int want) {
        for (Questions.Row row : Questions.ROWS) {
            BreadLaw x = made.get();
            for (int i = 0; i < times; i++) {
                Due.is(where, call.applyAsInt(x), want);
            }
            Questions.areAlike(where, row, x, made.get());
        }
    }

    private static void busyRefuses(String where, ToIntFunction<BreadLaw> call, int want) {
        refused(where, Town::busy, call, want);
    }

    private static void go() {
        for (int hours : new int[] {0, -1, 5001, LEAST, MOST}) {
            busyRefuses("go " + hours, x -> x.go(hours), OUTSIDE);
        }
        Supplier<BreadLaw> lastHour = () -> Town.busyTill(Town.LAST_HOUR);
        refused("go 1 in the last hour", lastHour, x -> x.go(1), STATE);
        refused("go 5000 in the last hour", lastHour, x -> x.go(5000), STATE);
        refused("go 0 in the last hour: OUTSIDE is ahead", lastHour, x -> x.go(0), OUTSIDE);
        refused("go 5001 in the last hour: OUTSIDE is ahead", lastHour, x -> x.go(5001), OUTSIDE);
        refused("go a week in the last one", () -> Town.busyTill(199 * 168), x -> x.go(168), STATE);
        refused("go one hour too far", () -> Town.busyTill(Town.LAST_HOUR - 4999), x -> x.go(5000), STATE);
    }

    private static void baker() {
        refused("a ninth baker", Town::withEightBakers, BreadLaw::baker, FULL);
    }

    private static void buy() {
        refused("buy without bakers", BreadLaw::new, x -> x.buy(0, 1, 1), UNKNOWN);
        for (int baker : new int[] {-1, 3, LEAST, MOST}) {
            busyRefuses("buy, baker " + baker, x -> x.buy(baker, 1, 1), UNKNOWN);
            busyRefuses("buy, baker ahead of ounces", x -> x.buy(baker, 0, 1), UNKNOWN);
            busyRefuses("buy, baker ahead of price", x -> x.buy(baker, 1, 1001), UNKNOWN);
            refused("buy, baker ahead of FULL", Town::busyWithFullBook, x -> x.buy(baker, 1, 1), UNKNOWN);
        }
        for (int ounces : new int[] {0, -1, 100001, LEAST, MOST}) {
            busyRefuses("buy, ounces " + ounces, x -> x.buy(0, ounces, 1), OUTSIDE);
            refused("buy, ounces ahead of FULL", Town::busyWithFullBook, x -> x.buy(0, ounces, 1), OUTSIDE);
        }
        for (int price : new int[] {0, -1, 1001, LEAST, MOST}) {
            busyRefuses("buy, price " + price, x -> x.buy(0, 1, price), OUTSIDE);
            refused("buy, price ahead of FULL", Town::busyWithFullBook, x -> x.buy(0, 1, price), OUTSIDE);
        }
        refused("buy, least, FULL", Town::busyWithFullBook, x -> x.buy(0, 1, 1), FULL);
        refused("buy, most, FULL", Town::busyWithFullBook, x -> x.buy(2, 100000, 1000), FULL);
    }

    private static void grind() {
        refused("grind, no records", BreadLaw::new, x -> x.grind(0), UNKNOWN);
        for (int record : new int[] {-1, 9, LEAST, MOST}) {
            busyRefuses("grind " + record, x -> x.grind(record), UNKNOWN);
        }
        refused("grind behind the last record", Town::busyWithFullBook, x -> x.grind(200), UNKNOWN);
        busyRefuses("grind a batch", x -> x.grind(4), NO);
        busyRefuses("grind a search", x -> x.grind(7), NO);
        busyRefuses("grind twice, flour is left", x -> x.grind(1), STATE);
        busyRefuses("grind twice, flour was taken", x -> x.grind(3), STATE);
        grindAgainAndAgain();
    }

    private static void grindAgainAndAgain() {
        BreadLaw x = Town.busy();
        for (int i = 0; i < 300; i++) {
            Due.is("grind again and again", x.grind(0), STATE);
        }
        Due.is("another lot", x.grind(2), 200);
        Due.is("its flour", x.bake(2, 0, 1, 1800), 9);
        Due.is("it gave", x.batch(9, 10), 2);
        Due.is("all of it", x.batch(9, 11), 1800);
    }

    private static void dish() {
        for (int n : new int[] {1, 0, -1, 101, LEAST, MOST}) {
            busyRefuses("dish " + n, x -> x.dish(n), OUTSIDE);
        }
    }

    private static void price() {
        for (int week : new int[] {-2, 3, 200, LEAST, MOST}) {
            busyRefuses("price " + week, x -> x.price(week), UNKNOWN);
        }
        refused("price of week 1 in week 0", BreadLaw::new, x -> x.price(1), UNKNOWN);
        refused("price of week 200", () -> Town.busyTill(Town.LAST_HOUR), x -> x.price(200), UNKNOWN);
    }

    private static void text() {
        for (int week : new int[] {-1, 200, LEAST, MOST}) {
            outsideText("week " + week, x -> x.text(week, 100, 100, 100, 0));
        }
        for (int share : new int[] {9, 0, -1, 301, LEAST, MOST}) {
            outsideText("share0 " + share, x -> x.text(0, share, 100, 100, 0));
            outsideText("share1 " + share, x -> x.text(0, 100, share, 100, 0));
            outsideText("share2 " + share, x -> x.text(0, 100, 100, share, 0));
        }
        for (int allowance : new int[] {-1, 6, LEAST, MOST}) {
            outsideText("allowance " + allowance, x -> x.text(0, 100, 100, 100, allowance));
        }
        refused("text, least, FULL", Town::withSixTexts, x -> x.text(0, 10, 10, 10, 0), FULL);
        refused("text, most, FULL", Town::withSixTexts, x -> x.text(199, 300, 300, 300, 5), FULL);
    }

    private static void outsideText(String where, ToIntFunction<BreadLaw> call) {
        busyRefuses("text, " + where, call, OUTSIDE);
        refused("text, ahead of FULL: " + where, Town::withSixTexts, call, OUTSIDE);
    }

    private static void step() {
        refused("step without texts", BreadLaw::new, x -> x.step(0, 0, 1), UNKNOWN);
        for (int text : new int[] {-1, 2, LEAST, MOST}) {
            busyRefuses("step, text " + text, x -> x.step(text, 0, 1), UNKNOWN);
            busyRefuses("step, text ahead of price", x -> x.step(text, 1001, 1), UNKNOWN);
            busyRefuses("step, text ahead of ounces", x -> x.step(text, 0, 0), UNKNOWN);
        }
        refused("step of a seventh text", Town::withSixTexts, x -> x.step(6, 0, 1), UNKNOWN);
        for (int price : new int[] {-1, 1001, LEAST, MOST}) {
            busyRefuses("step, price " + price, x -> x.step(0, price, 1), OUTSIDE);
            refused("step, price ahead of FULL", Town::withSixTexts, x -> x.step(0, price, 1), OUTSIDE);
        }
        for (int ounces : new int[] {0, -1, 1001, LEAST, MOST}) {
            busyRefuses("step, ounces " + ounces, x -> x.step(0, 0, ounces), OUTSIDE);
            refused("step, ounces ahead of FULL", Town::withSixTexts, x -> x.step(0, 0, ounces), OUTSIDE);
        }
        refused("a ninth step", Town::withSixTexts, x -> x.step(0, 0, 1), FULL);
        refused("a ninth step", Town::withSixTexts, x -> x.step(0, 1000, 1000), FULL);
        refused("a ninth step, of the only text", Town::withEightSteps, x -> x.step(0, 0, 1), FULL);
        refused("a ninth step, of the only text", Town::withEightSteps, x -> x.step(0, 1000, 1000), FULL);
    }

    private static void inForce() {
        for (int week : new int[] {-1, 200, LEAST, MOST}) {
            busyRefuses("inForce " + week, x -> x.inForce(week), UNKNOWN);
        }
    }

    private static void due() {
        for (int week : new int[] {-1, 3, 200, LEAST, MOST}) {
            busyRefuses("due, week " + week, x -> x.due(0, week), UNKNOWN);
            busyRefuses("due, week ahead of kind", x -> x.due(3, week), UNKNOWN);
            busyRefuses("due, week ahead of kind", x -> x.due(-1, week), UNKNOWN);
        }
        refused("due in week 200", () -> Town.busyTill(Town.LAST_HOUR), x -> x.due(0, 200), UNKNOWN);
        for (int kind : new int[] {-1, 3, LEAST, MOST}) {
            busyRefuses("due, kind " + kind, x -> x.due(kind, 0), OUTSIDE);
            refused("due, kind, without a text", BreadLaw::new, x -> x.due(kind, 0), OUTSIDE);
        }
    }

    private static void bakeUnknownOrOutside() {
        refused("bake without bakers", BreadLaw::new, x -> x.bake(0, 0, 1, 1), UNKNOWN);
        for (int baker : new int[] {-1, 3, LEAST, MOST}) {
            busyRefuses("bake, baker " + baker, x -> x.bake(baker, 0, 1, 1), UNKNOWN);
            busyRefuses("bake, baker ahead of kind", x -> x.bake(baker, 3, 1, 1), UNKNOWN);
            busyRefuses("bake, baker ahead of loaves", x -> x.bake(baker, 0, 0, 1), UNKNOWN);
            busyRefuses("bake, baker ahead of weight", x -> x.bake(baker, 0, 1, 2001), UNKNOWN);
            refused("bake, baker ahead of FULL", Town::busyWithFullBook, x -> x.bake(baker, 0, 1, 1), UNKNOWN);
        }
        for (int kind : new int[] {-1, 3, LEAST, MOST}) {
            outsideBake("kind " + kind, x -> x.bake(0, kind, 1, 1));
        }
        for (int n : new int[] {0, -1, 501, LEAST, MOST}) {
            outsideBake("loaves " + n, x -> x.bake(0, 0, n, 1));
        }
        for (int weight : new int[] {0, -1, 2001, LEAST, MOST}) {
            outsideBake("weight " + weight, x -> x.bake(0, 0, 1, weight));
        }
        // Products that come round to a small number of ounces.
        outsideBake("65536 by 65536", x -> x.bake(0, 0, 65536, 65536));
        outsideBake("-1 by -1", x -> x.bake(0, 0, -1, -1));
    }

    private static void outsideBake(String where, ToIntFunction<BreadLaw> call) {
        busyRefuses("bake, " + where, call, OUTSIDE);
        refused("bake, ahead of STATE: " + where, Town::barred, call, OUTSIDE);
        refused("bake, ahead of FULL: " + where, Town::busyWithFullBook, call, OUTSIDE);
        refused("bake, ahead of NO: " + where, () -> Town.withBakers(1), call, OUTSIDE);
    }

    private static void bakeBarredFullOrNoFlour() {
        Supplier<BreadLaw> barredAndFull = () -> {
            BreadLaw x = Town.barred();
            Town.fillBook(x);
            return x;
        };
        refused("bake, barred", Town::barred, x -> x.bake(0, 0, 1, 1), STATE);
        refused("bake, STATE ahead of FULL", barredAndFull, x -> x.bake(0, 0, 1, 1), STATE);
        refused("bake, STATE ahead of NO", Town::barred, x -> x.bake(0, 0, 500, 2000), STATE);
        refused("bake, STATE ahead of FULL and NO", barredAndFull, x -> x.bake(0, 0, 500, 2000), STATE);
        refused("bake, FULL", Town::busyWithFullBook, x -> x.bake(0, 0, 1, 1), FULL);
        refused("bake, FULL ahead of NO", Town::busyWithFullBook, x -> x.bake(0, 0, 500, 2000), FULL);
        refused("bake, FULL ahead of NO, no flour", Town::busyWithFullBook, x -> x.bake(2, 0, 1, 1), FULL);
        // Lots 0 and 3 gave 5400 ounces of flour, of which 600 were baked.
        busyRefuses("bake, an ounce too much", x -> x.bake(0, 2, 3, 1601), NO);
        busyRefuses("bake, the most at once", x -> x.bake(0, 2, 500, 2000), NO);
        busyRefuses("bake, corn that was not ground", x -> x.bake(2, 0, 1, 1), NO);
    }

    private static void search() {
        refused("search without bakers", BreadLaw::new, BreadLaw::search, STATE);
        refused("search, FULL", Town::busyWithFullBook, BreadLaw::search, FULL);
        refused("search, FULL, no row is drawn", RefusedTest::fullBookWithoutRow, BreadLaw::search, FULL);
        refused("search, FULL, the row is used up", RefusedTest::fullBookWithUsedRow, BreadLaw::search, FULL);
    }

    private static BreadLaw fullBookWithoutRow() {
        BreadLaw x = Town.withBakers(4);
        Town.fillBook(x);
        return x;
    }

    private static BreadLaw fullBookWithUsedRow() {
        BreadLaw x = Town.withBakers(4);
        for (int i = 0; i < 4; i++) {
            x.search();
        }
        Town.fillBook(x);
        return x;
    }

    private static void turn() {
        refused("turn without bakers", BreadLaw::new, BreadLaw::turn, STATE);
    }

    private static void rules() {
        for (int dry : new int[] {-1, 6, LEAST, MOST}) {
            busyRefuses("rules, dry " + dry, x -> x.rules(dry, 999), OUTSIDE);
        }
        for (int fine : new int[] {-1, 1001, LEAST, MOST}) {
            busyRefuses("rules, fine " + fine, x -> x.rules(5, fine), OUTSIDE);
        }
        busyRefuses("rules, both", x -> x.rules(6, 1001), OUTSIDE);
    }

    private static void record() {
        refused("record, none", BreadLaw::new, x -> x.record(0, 0), UNKNOWN);
        for (int record : new int[] {-1, 9, LEAST, MOST}) {
            busyRefuses("record " + record, x -> x.record(record, 0), UNKNOWN);
            busyRefuses("record ahead of what", x -> x.record(record, 4), UNKNOWN);
        }
        refused("record behind the last", Town::busyWithFullBook, x -> x.record(200, 0), UNKNOWN);
        for (int what : new int[] {-1, 4, LEAST, MOST}) {
            for (int record : new int[] {0, 4, 6}) {
                busyRefuses("record " + record + ", what " + what, x -> x.record(record, what), OUTSIDE);
            }
        }
    }

    private static void lot() {
        refused("lot, none", BreadLaw::new, x -> x.lot(0, 0), UNKNOWN);
        for (int record : new int[] {-1, 9, LEAST, MOST}) {
            busyRefuses("lot " + record, x -> x.lot(record, 0), UNKNOWN);
            busyRefuses("lot ahead of what", x -> x.lot(record, 4), UNKNOWN);
        }
        refused("lot behind the last", Town::busyWithFullBook, x -> x.lot(200, 0), UNKNOWN);
        for (int what : new int[] {-1, 4, LEAST, MOST}) {
            busyRefuses("lot, what " + what, x -> x.lot(0, what), OUTSIDE);
            busyRefuses("lot, what ahead of NO: a batch", x -> x.lot(4, what), OUTSIDE);
            busyRefuses("lot, what ahead of NO: a search", x -> x.lot(6, what), OUTSIDE);
        }
        for (int what = 0; what < 4; what++) {
            int w = what;
            busyRefuses("lot, a batch", x -> x.lot(4, w), NO);
            busyRefuses("lot, a search", x -> x.lot(6, w), NO);
        }
    }

    private static void batch() {
        refused("batch, none", BreadLaw::new, x -> x.batch(0, 0), UNKNOWN);
        for (int record : new int[] {-1, 9, LEAST, MOST}) {
            busyRefuses("batch " + record, x -> x.batch(record, 0), UNKNOWN);
            busyRefuses("batch ahead of what", x -> x.batch(record, 4), UNKNOWN);
            busyRefuses("batch ahead of what", x -> x.batch(record, -1), UNKNOWN);
        }
        refused("batch behind the last", Town::busyWithFullBook, x -> x.batch(200, 0), UNKNOWN);
        for (int what : new int[] {LEAST, -1, 4, 5, 6, 7, 8, 9}) {
            busyRefuses("batch, what " + what, x -> x.batch(4, what), OUTSIDE);
            busyRefuses("batch, what ahead of NO: a lot", x -> x.batch(0, what), OUTSIDE);
            busyRefuses("batch, what ahead of NO: a search", x -> x.batch(6, what), OUTSIDE);
        }
        for (int what : new int[] {0, 3, 10, 11, MOST}) {
            busyRefuses("batch, a lot, what " + what, x -> x.batch(0, what), NO);
            busyRefuses("batch, a search, what " + what, x -> x.batch(6, what), NO);
        }
    }

    private static void found() {
        refused("found, none", BreadLaw::new, x -> x.found(0, 0), UNKNOWN);
        for (int record : new int[] {-1, 9, LEAST, MOST}) {
            busyRefuses("found " + record, x -> x.found(record, 0), UNKNOWN);
            busyRefuses("found ahead of what", x -> x.found(record, 6), UNKNOWN);
        }
        refused("found behind the last", Town::busyWithFullBook, x -> x.found(200, 0), UNKNOWN);
        for (int what : new int[] {-1, 6, LEAST, MOST}) {
            busyRefuses("found, what " + what, x -> x.found(6, what), OUTSIDE);
            busyRefuses("found, what ahead of NO: a lot", x -> x.found(0, what), OUTSIDE);
            busyRefuses("found, what ahead of NO: a batch", x -> x.found(4, what), OUTSIDE);
        }
        for (int what = 0; what < 6; what++) {
            int w = what;
            busyRefuses("found, a lot", x -> x.found(0, w), NO);
            busyRefuses("found, a batch", x -> x.found(4, w), NO);
        }
    }

    private static void about() {
        refused("about, none", BreadLaw::new, x -> x.about(0, 0), UNKNOWN);
        for (int baker : new int[] {-1, 3, LEAST, MOST}) {
            busyRefuses("about " + baker, x -> x.about(baker, 0), UNKNOWN);
            busyRefuses("about, baker ahead of what", x -> x.about(baker, 8), UNKNOWN);
        }
        refused("about a ninth", Town::withEightBakers, x -> x.about(8, 0), UNKNOWN);
        for (int what : new int[] {-1, 8, LEAST, MOST}) {
            busyRefuses("about, what " + what, x -> x.about(0, what), OUTSIDE);
        }
    }

    private static void store() {
        for (int ounces : new int[] {0, -1, 10000001, LEAST, MOST}) {
            busyRefuses("store " + ounces, x -> x.store(ounces), OUTSIDE);
            refused("store, OUTSIDE ahead of FULL", Town::withFullStore, x -> x.store(ounces), OUTSIDE);
        }
        refused("store, FULL, the least", Town::withFullStore, x -> x.store(1), FULL);
        refused("store, FULL, the most", Town::withFullStore, x -> x.store(10000000), FULL);
        refused("store, an ounce beyond", RefusedTest::withRoomFor99, x -> x.store(100), FULL);
    }

    private static BreadLaw withRoomFor99() {
        BreadLaw x = new BreadLaw();
        for (int i = 0; i < 9; i++) {
            x.store(10000000);
        }
        x.store(9999901);
        return x;
    }

    private static void mouths() {
        for (int n : new int[] {-1, 10001, LEAST, MOST}) {
            busyRefuses("mouths " + n, x -> x.mouths(n, 1), OUTSIDE);
        }
        for (int each : new int[] {0, -1, 1001, LEAST, MOST}) {
            busyRefuses("mouths, each " + each, x -> x.mouths(1, each), OUTSIDE);
        }
        busyRefuses("mouths, both", x -> x.mouths(-1, 0), OUTSIDE);
    }

    private static void ration() {
        for (int r : new int[] {0, -1, 101, LEAST, MOST}) {
            busyRefuses("ration " + r, x -> x.ration(r), OUTSIDE);
        }
    }

    private static void harvest() {
        for (int week : new int[] {-1, 200, LEAST, MOST}) {
            busyRefuses("harvest, week " + week, x -> x.harvest(week, 1), OUTSIDE);
            refused("harvest, week ahead of FULL", Town::withTenHarvests, x -> x.harvest(week, 1), OUTSIDE);
        }
        for (int ounces : new int[] {0, -1, 10000001, LEAST, MOST}) {
            busyRefuses("harvest, ounces " + ounces, x -> x.harvest(3, ounces), OUTSIDE);
            busyRefuses("harvest, ounces ahead of NO", x -> x.harvest(2, ounces), OUTSIDE);
            refused("harvest, ounces ahead of FULL", Town::withTenHarvests, x -> x.harvest(3, ounces), OUTSIDE);
        }
        busyRefuses("harvest of today's week", x -> x.harvest(2, 1), NO);
        busyRefuses("harvest of an earlier week", x -> x.harvest(1, 10000000), NO);
        busyRefuses("harvest of the first week", x -> x.harvest(0, 1), NO);
        refused("harvest of week 0 in week 0", BreadLaw::new, x -> x.harvest(0, 1), NO);
        refused("harvest of the last week", () -> Town.busyTill(199 * 168), x -> x.harvest(199, 1), NO);
        refused("an eleventh harvest", Town::withTenHarvests, x -> x.harvest(3, 1), FULL);
        refused("an eleventh harvest", Town::withTenHarvests, x -> x.harvest(199, 10000000), FULL);
        refused("harvest, FULL ahead of NO: today's", Town::withTenHarvests, x -> x.harvest(2, 1), FULL);
        refused("harvest, FULL ahead of NO: earlier", Town::withTenHarvests, x -> x.harvest(0, 1), FULL);
    }

    private static void foretell() {
        for (int ration : new int[] {0, -1, 101, LEAST, MOST}) {
            busyRefuses("foretell " + ration, x -> x.foretell(ration), OUTSIDE);
        }
    }

    private static void order() {
        for (int week : new int[] {1, 0, -1, 200, LEAST, MOST}) {
            busyRefuses("order " + week, x -> x.order(week), OUTSIDE);
        }
        refused("order in the last week", () -> Town.busyTill(199 * 168), x -> x.order(198), OUTSIDE);
        refused("order in the last week", () -> Town.busyTill(199 * 168), x -> x.order(200), OUTSIDE);
    }

    private static void told() {
        for (int what : new int[] {-1, 10, LEAST, MOST}) {
            busyRefuses("told " + what, x -> x.told(what), OUTSIDE);
        }
    }

    private static void askingChangesNothing() {
        for (Questions.Row asked : Questions.ASKING) {
            for (Questions.Row row : Questions.ROWS) {
                BreadLaw x = Town.busy();
                for (int i = asked.from(); i <= asked.to(); i++) {
                    asked.question().of(x, i);
                }
                Questions.areAlike("asked " + asked.name(), row, x, Town.busy());
            }
        }
    }
}

/** Promise by promise: ordinary inputs, the edges that the document names, and wrong inputs. */
public final class PromisesTest {
    private static final int UNKNOWN = -1, OUTSIDE = -2, STATE = -3, FULL = -4, NO = -5, NONE = -6;
    private static final int[] FAR = {Integer.MIN_VALUE, Integer.MAX_VALUE};

    public static void main(String[] args) {
        promise1NewObject();
        promise2Go();
        promise3Baker();
        promise4Buy();
        promise5Grind();
        promise6Dish();
        promise7Price();
        promise8Text();
        promise9Step();
        promise10InForce();
        promise11Due();
        promise12Bake();
        promise12BakeOutOfSeveralLots();
        promise13Search();
        promise13SearchFinesAndBars();
        promise13SearchLooksAtTextsNow();
        promise14Turn();
        promise15Rules();
        promise16Record();
        promise17Lot();
        promise18Batch();
        promise19Found();
        promise20About();
        promise21Store();
        promise22Mouths();
        promise23Ration();
        promise24Harvest();
        promise25Foretell();
        promise26Order();
        promise27Told();
        Due.end();
    }

    private static void promise1NewObject() {
        Due.is("1 UNKNOWN", BreadLaw.UNKNOWN, -1);
        Due.is("1 OUTSIDE", BreadLaw.OUTSIDE, -2);
        Due.is("1 STATE", BreadLaw.STATE, -3);
        Due.is("1 FULL", BreadLaw.FULL, -4);
        Due.is("1 NO", BreadLaw.NO, -5);
        Due.is("1 NONE", BreadLaw.NONE, -6);
        int[] first = {0, 0, 0, 0, 0, 0, 0, 0, 100, 0};
        BreadLaw x = new BreadLaw();
        for (int i = 0; i < first.length; i++) {
            Due.is("1 told " + i, x.told(i), first[i]);
        }
        Due.is("1 no baker", x.about(0, 0), UNKNOWN);
        Due.is("1 no record", x.record(0, 0), UNKNOWN);
        Due.is("1 no text", x.inForce(199), NONE);
        Due.is("1 no text for a step", x.step(0, 0, 1), UNKNOWN);
        Due.is("1 price", x.price(0), 100);
        Due.is("1 dish", x.dish(2), 16);
        Due.is("1 mouths are 0", x.foretell(100), NONE);
        BreadLaw y = new BreadLaw();
        Due.is("1 objects are apart", y.dish(3), 16);
    }

    private static void promise2Go() {
        BreadLaw x = new BreadLaw();
        Due.is("2 go 0", x.go(0), OUTSIDE);
        Due.is("2 go -1", x.go(-1), OUTSIDE);
        Due.is("2 go 5001", x.go(5001), OUTSIDE);
        for (int far : FAR) {
            Due.is("2 go " + far, x.go(far), OUTSIDE);
        }
        Due.is("2 go 167", x.go(167), 0);
        Due.is("2 hour", x.told(1), 167);
        Due.is("2 go 1", x.go(1), 1);
        Due.is("2 hour", x.told(1), 0);
        Due.is("2 week", x.told(0), 1);
        Due.is("2 go 5000", x.go(5000), 30);
        Due.is("2 hour", x.told(1), 128);
        for (int i = 0; i < 5; i++) {
            x.go(5000);
        }
        Due.is("2 near the end", x.told(0) * 168 + x.told(1), 30168);
        Due.is("2 beyond the end", x.go(3432), STATE);
        Due.is("2 far beyond the end", x.go(5000), STATE);
        Due.is("2 outside ahead of state", x.go(5001), OUTSIDE);
        Due.is("2 nothing went on", x.told(0) * 168 + x.told(1), 30168);
        Due.is("2 last hour", x.go(3431), 199);
        Due.is("2 last hour", x.told(1), 167);
        Due.is("2 one more", x.go(1), STATE);
        Due.is("2 still week 199", x.told(0), 199);
    }

    private static void promise3Baker() {
        BreadLaw x = new BreadLaw();
        for (int i = 0; i < 8; i++) {
            Due.is("3 baker", x.baker(), i);
            Due.is("3 bakers", x.told(2), i + 1);
        }
        Due.is("3 full", x.baker(), FULL);
        Due.is("3 full", x.baker(), FULL);
        Due.is("3 bakers", x.told(2), 8);
    }

    private static void promise4Buy() {
        BreadLaw x = Town.withBakers(2);
        Due.is("4 no baker", x.buy(2, 1, 1), UNKNOWN);
        Due.is("4 no baker", x.buy(-1, 0, 0), UNKNOWN);
        for (int far : FAR) {
            Due.is("4 far baker", x.buy(far, 1, 1), UNKNOWN);
            Due.is("4 far ounces", x.buy(0, far, 1), OUTSIDE);
            Due.is("4 far price", x.buy(0, 1, far), OUTSIDE);
        }
        Due.is("4 ounces", x.buy(0, 0, 1), OUTSIDE);
        Due.is("4 ounces", x.buy(0, 100001, 1), OUTSIDE);
        Due.is("4 price", x.buy(0, 1, 0), OUTSIDE);
        Due.is("4 price", x.buy(0, 1, 1001), OUTSIDE);
        Due.is("4 nothing was bought", x.told(4) + x.about(0, 1), 0);
        Due.is("4 least", x.buy(0, 1, 1), 0);
        Due.is("4 most", x.buy(1, 100000, 1000), 1);
        Due.is("4 lots", x.about(1, 1), 1);
        Town.fillBook(x);
        Due.is("4 full", x.buy(0, 1, 1), FULL);
        Due.is("4 outside ahead of full", x.buy(0, 0, 1), OUTSIDE);
        Due.is("4 unknown ahead of full", x.buy(2, 1, 1), UNKNOWN);
        Due.is("4 records", x.told(4), 200);
        Due.is("4 lots", x.about(0, 1), 199);
    }

    private static void promise5Grind() {
        BreadLaw x = Town.withBakers(1);
        x.buy(0, 33, 1);
        x.buy(0, 100000, 1);
        x.buy(0, 1, 1);
        Due.is("5 no record", x.grind(3), UNKNOWN);
        Due.is("5 no record", x.grind(-1), UNKNOWN);
        for (int far : FAR) {
            Due.is("5 no record", x.grind(far), UNKNOWN);
        }
        Due.is("5 cut", x.grind(0), 2);
        Due.is("5 twice", x.grind(0), STATE);
        Due.is("5 the rest is flour", x.lot(0, 3), 31);
        x.dish(2);
        Due.is("5 by the new dish", x.grind(1), 50000);
        Due.is("5 nothing to keep", x.grind(2), 0);
        Due.is("5 twice", x.grind(2), STATE);
        Due.is("5 flour", x.about(0, 0), 31 + 50000 + 1);
        Due.is("5 kept", x.told(5), 50002);
        x.bake(0, 0, 1, 1);
        x.search();
        Due.is("5 a batch", x.grind(3), NO);
        Due.is("5 a search", x.grind(4), NO);
    }

    private static void promise6Dish() {
        BreadLaw x = new BreadLaw();
        Due.is("6 dish 1", x.dish(1), OUTSIDE);
        Due.is("6 dish 101", x.dish(101), OUTSIDE);
        Due.is("6 dish 0", x.dish(0), OUTSIDE);
        for (int far : FAR) {
            Due.is("6 far", x.dish(far), OUTSIDE);
        }
        Due.is("6 first", x.dish(100), 16);
        Due.is("6 second", x.dish(2), 100);
        Due.is("6 third", x.dish(50), 2);
    }

    private static void promise7Price() {
        BreadLaw x = Town.withBakers(2);
        Due.is("7 ahead of week 0", x.price(-1), 100);
        Due.is("7 without lots", x.price(0), 100);
        Due.is("7 not yet", x.price(1), UNKNOWN);
        Due.is("7 too early", x.price(-2), UNKNOWN);
        for (int far : FAR) {
            Due.is("7 far", x.price(far), UNKNOWN);
        }
        x.buy(0, 3, 10);
        x.buy(1, 1, 13);
        Due.is("7 cut", x.price(0), 10);
        x.buy(1, 100000, 999);
        Due.is("7 by ounces", x.price(0), (3 * 10 + 13 + 99900000) / 100004);
        x.go(168 * 3);
        Due.is("7 of a week ahead", x.price(3), 998);
        Due.is("7 not yet", x.price(4), UNKNOWN);
        x.buy(0, 1, 5);
        Due.is("7 own week", x.price(3), 5);
        Due.is("7 earlier week stays", x.price(2), 998);
        Due.is("7 ahead of week 0", x.price(-1), 100);

        for (int i = 0; i < 6; i++) {
            x.go(5000);
        }
        x.go(199 * 168 - x.told(0) * 168 - x.told(1));
        x.buy(0, 1, 6);
        Due.is("7 the last week", x.price(199), 6);
        Due.is("7 the week ahead of it", x.price(198), 5);
        Due.is("7 there is no week 200", x.price(200), UNKNOWN);

        BreadLaw y = Town.withBakers(1);
        for (int i = 0; i < 200; i++) {
            y.buy(0, 100000, 1000);
        }
        Due.is("7 great sums", y.price(0), 1000);
    }

    private static void promise8Text() {
        BreadLaw x = new BreadLaw();
        Due.is("8 week", x.text(-1, 100, 100, 100, 0), OUTSIDE);
        Due.is("8 week", x.text(200, 100, 100, 100, 0), OUTSIDE);
        Due.is("8 share0", x.text(0, 9, 100, 100, 0), OUTSIDE);
        Due.is("8 share0", x.text(0, 301, 100, 100, 0), OUTSIDE);
        Due.is("8 share1", x.text(0, 100, 9, 100, 0), OUTSIDE);
        Due.is("8 share1", x.text(0, 100, 301, 100, 0), OUTSIDE);
        Due.is("8 share2", x.text(0, 100, 100, 9, 0), OUTSIDE);
        Due.is("8 share2", x.text(0, 100, 100, 301, 0), OUTSIDE);
        Due.is("8 allowance", x.text(0, 100, 100, 100, -1), OUTSIDE);
        Due.is("8 allowance", x.text(0, 100, 100, 100, 6), OUTSIDE);
        for (int far : FAR) {
            Due.is("8 far", x.text(far, 100, 100, 100, 0), OUTSIDE);
            Due.is("8 far", x.text(0, 100, 100, 100, far), OUTSIDE);
        }
        Due.is("8 none yet", x.told(3), 0);
        Due.is("8 least", x.text(0, 10, 10, 10, 0), 0);
        Due.is("8 most", x.text(199, 300, 300, 300, 5), 1);
        for (int i = 2; i < 6; i++) {
            Due.is("8 text", x.text(5, 100, 100, 100, 0), i);
        }
        Due.is("8 full", x.text(0, 100, 100, 100, 0), FULL);
        Due.is("8 outside ahead of full", x.text(0, 100, 100, 100, 6), OUTSIDE);
        Due.is("8 texts", x.told(3), 6);
    }

    private static void promise9Step() {
        BreadLaw x = new BreadLaw();
        x.text(0, 100, 100, 100, 0);
        x.text(1, 100, 100, 100, 0);
        Due.is("9 no text", x.step(2, 0, 1), UNKNOWN);
        Due.is("9 no text", x.step(-1, -1, 1), UNKNOWN);
        Due.is("9 price", x.step(0, -1, 1), OUTSIDE);
        Due.is("9 price", x.step(0, 1001, 1), OUTSIDE);
        Due.is("9 ounces", x.step(0, 0, 0), OUTSIDE);
        Due.is("9 ounces", x.step(0, 0, 1001), OUTSIDE);
        for (int far : FAR) {
            Due.is("9 far", x.step(far, 0, 1), UNKNOWN);
            Due.is("9 far", x.step(0, far, 1), OUTSIDE);
            Due.is("9 far", x.step(0, 0, far), OUTSIDE);
        }
        Due.is("9 least", x.step(0, 0, 1), 1);
        Due.is("9 most", x.step(0, 1000, 1000), 2);
        Due.is("9 texts are apart", x.step(1, 5, 5), 1);
        for (int i = 3; i <= 8; i++) {
            Due.is("9 step", x.step(0, i, 10), i);
        }
        Due.is("9 full", x.step(0, 0, 1), FULL);
        Due.is("9 outside ahead of full", x.step(0, 0, 0), OUTSIDE);
        Due.is("9 the other one is not", x.step(1, 0, 1), 2);
    }

    private static void promise10InForce() {
        BreadLaw x = new BreadLaw();
        Due.is("10 none", x.inForce(0), NONE);
        Due.is("10 none", x.inForce(199), NONE);
        Due.is("10 no week", x.inForce(-1), UNKNOWN);
        Due.is("10 no week", x.inForce(200), UNKNOWN);
        for (int far : FAR) {
            Due.is("10 far", x.inForce(far), UNKNOWN);
        }
        x.text(10, 100, 100, 100, 0);
        Due.is("10 ahead of it", x.inForce(9), NONE);
        Due.is("10 from its week", x.inForce(10), 0);
        x.text(5, 100, 100, 100, 0);
        Due.is("10 told later, for earlier", x.inForce(9), 1);
        Due.is("10 the latest week", x.inForce(10), 0);
        x.text(10, 100, 100, 100, 0);
        Due.is("10 of several the last told", x.inForce(10), 2);
        x.text(199, 100, 100, 100, 0);
        Due.is("10 week 198", x.inForce(198), 2);
        Due.is("10 week 199", x.inForce(199), 3);
        Due.is("10 week 4", x.inForce(4), NONE);
    }

    private static void promise11Due() {
        BreadLaw x = Town.withBakers(1);
        Due.is("11 without a text", x.due(0, 0), 0);
        x.text(0, 100, 33, 300, 0);
        Due.is("11 without a step", x.due(0, 0), 0);
        x.step(0, 101, 700);
        Due.is("11 no step so low", x.due(0, 0), 0);
        x.step(0, 100, 500);
        Due.is("11 price as the step's", x.due(0, 0), 500);
        Due.is("11 cut", x.due(1, 0), 165);
        Due.is("11 kind 2", x.due(2, 0), 1500);
        x.step(0, 50, 900);
        Due.is("11 the greatest price", x.due(0, 0), 500);
        x.step(0, 100, 501);
        Due.is("11 of several the last told", x.due(0, 0), 501);
        Due.is("11 cut", x.due(1, 0), 165);
        Due.is("11 kind", x.due(3, 0), OUTSIDE);
        Due.is("11 kind", x.due(-1, 0), OUTSIDE);
        Due.is("11 week", x.due(0, 1), UNKNOWN);
        Due.is("11 week", x.due(0, -1), UNKNOWN);
        Due.is("11 unknown ahead of outside", x.due(3, 1), UNKNOWN);
        for (int far : FAR) {
            Due.is("11 far", x.due(0, far), UNKNOWN);
            Due.is("11 far", x.due(far, 0), OUTSIDE);
        }
        x.buy(0, 10, 60);
        Due.is("11 this week's price is not asked", x.due(0, 0), 501);
        x.go(168);
        x.buy(0, 10, 1000);
        Due.is("11 price of the week ahead", x.due(0, 1), 900);
        x.text(1, 200, 200, 200, 0);
        Due.is("11 the text of the week", x.due(0, 1), 0);
        Due.is("11 the text of the week", x.due(0, 0), 501);
        x.step(1, 0, 1);
        Due.is("11 step of price 0", x.due(0, 1), 2);
    }

    private static void promise12Bake() {
        BreadLaw x = Town.withFlour(1);
        x.baker();
        Due.is("12 no baker", x.bake(2, 0, 1, 1), UNKNOWN);
        Due.is("12 no baker", x.bake(-1, -1, 0, 0), UNKNOWN);
        Due.is("12 kind", x.bake(0, -1, 1, 1), OUTSIDE);
        Due.is("12 kind", x.bake(0, 3, 1, 1), OUTSIDE);
        Due.is("12 loaves", x.bake(0, 0, 0, 1), OUTSIDE);
        Due.is("12 loaves", x.bake(0, 0, 501, 1), OUTSIDE);
        Due.is("12 weight", x.bake(0, 0, 1, 0), OUTSIDE);
        Due.is("12 weight", x.bake(0, 0, 1, 2001), OUTSIDE);
        for (int far : FAR) {
            Due.is("12 far", x.bake(far, 0, 1, 1), UNKNOWN);
            Due.is("12 far", x.bake(0, far, 1, 1), OUTSIDE);
            Due.is("12 far", x.bake(0, 0, far, 1), OUTSIDE);
            Due.is("12 far", x.bake(0, 0, 1, far), OUTSIDE);
        }
        Due.is("12 not enough", x.bake(0, 0, 500, 2000), NO);
        Due.is("12 another's flour", x.bake(1, 0, 1, 1), NO);
        Due.is("12 nothing was baked", x.about(0, 0), 93750);
        Due.is("12 nothing was recorded", x.told(4), 1);
        Due.is("12 baked", x.bake(0, 2, 46, 2000), 1);
        Due.is("12 flour", x.about(0, 0), 1750);
        Due.is("12 one too many", x.bake(0, 0, 1, 1751), NO);
        Due.is("12 most loaves", x.bake(0, 0, 500, 3), 2);
        Due.is("12 all of it", x.bake(0, 1, 1, 250), 3);
        Due.is("12 none left", x.bake(0, 1, 1, 1), NO);
        x.buy(0, 100, 100);
        Due.is("12 corn is no flour", x.bake(0, 1, 1, 1), NO);
        x.grind(4);
        Town.fillBook(x);
        Due.is("12 full", x.bake(0, 1, 1, 1), FULL);
        Due.is("12 full ahead of no", x.bake(0, 1, 500, 2000), FULL);
        Due.is("12 outside ahead of full", x.bake(0, 1, 500, 2001), OUTSIDE);
        Due.is("12 no flour was taken", x.about(0, 0), 94);
    }

    private static void promise12BakeOutOfSeveralLots() {
        BreadLaw x = Town.withBakers(2);
        x.dish(100);
        for (int i = 0; i < 6; i++) {
            x.buy(i % 2, 10 + i, 100);
        }
        int[] order = {4, 1, 0, 2};
        for (int record : order) {
            x.grind(record);
        }
        Due.is("12 over two lots and part of a third", x.bake(0, 0, 1, 25), 6);
        Due.is("12 gave", x.batch(6, 3), 3);
        int[] gave = {4, 14, 0, 10, 2, 1, NONE, NONE};
        for (int i = 0; i < gave.length; i++) {
            Due.is("12 gave " + i, x.batch(6, 10 + i), gave[i]);
        }
        Due.is("12 left of the third", x.lot(2, 3), 11);
        Due.is("12 the other's lot is whole", x.lot(1, 3), 11);
        x.grind(3);
        Due.is("12 the other baker", x.bake(1, 0, 3, 4), 7);
        Due.is("12 gave", x.batch(7, 10), 1);
        Due.is("12 gave", x.batch(7, 11), 11);
        Due.is("12 gave", x.batch(7, 12), 3);
        Due.is("12 gave", x.batch(7, 13), 1);
        Due.is("12 the rest", x.bake(0, 0, 1, 11), 8);
        Due.is("12 emptied lots give nothing", x.batch(8, 3), 1);
        Due.is("12 gave", x.batch(8, 10), 2);
        Due.is("12 the batch ahead still tells its own", x.batch(6, 10), 4);
        Due.is("12 and not what the next one took", x.batch(6, 16), NONE);
        Due.is("12 and not what the next one took", x.batch(6, 17), NONE);
        Due.is("12 the second batch neither", x.batch(7, 14), NONE);

        BreadLaw y = Town.withBakers(1);
        for (int i = 0; i < 100; i++) {
            y.buy(0, 2, 100);
            y.grind(i);
        }
        for (int i = 0; i < 66; i++) {
            y.bake(0, 0, 3, 1);
        }
        Due.is("12 many gifts", y.batch(165, 3), 2);
        Due.is("12 many gifts", y.batch(165, 10), 97);
        Due.is("12 many gifts", y.batch(165, 11), 1);
        Due.is("12 many gifts", y.batch(165, 12), 98);
        Due.is("12 many gifts", y.batch(165, 13), 2);
        Due.is("12 many gifts", y.about(0, 0), 2);
    }

    private static void promise13Search() {
        BreadLaw x = new BreadLaw();
        Due.is("13 no bakers", x.search(), STATE);
        Due.is("13 nothing recorded", x.told(4), 0);
        x.baker();
        Due.is("13 a search", x.search(), 0);
        Due.is("13 no batch", x.found(0, 0), NONE);
        Due.is("13 not short", x.about(0, 4), 0);
        Due.is("13 searches", x.about(0, 3), 1);

        BreadLaw y = Town.withBakers(3);
        int[] turns = {1, 0, 2, 2};
        for (int i = 0; i < turns.length; i++) {
            y.search();
            Due.is("13 turn " + i, y.record(i, 3), turns[i]);
        }
        Town.fillBook(y);
        int next = y.turn();
        Due.is("13 full", y.search(), FULL);
        Due.is("13 the turn is still the same", y.turn(), next);
        Due.is("13 records", y.told(4), 200);

        BreadLaw full = Town.withBakers(3);
        Town.fillBook(full);
        Due.is("13 full", full.search(), FULL);
        Due.is("13 no row was drawn for it", full.turn(), 1);
    }

    private static void promise13SearchFinesAndBars() {
        BreadLaw x = Town.withFlour(1);
        x.text(0, 100, 100, 100, 0);
        x.step(0, 0, 1000);
        x.go(100);
        x.bake(0, 0, 1, 999);
        int[] fines = {12, 24, 36, 48, 48, 48};
        int[] from = {0, 0, 0, 2, 2, 3};
        for (int i = 0; i < fines.length; i++) {
            if (i == 5) {
                x.go(168);
            }
            Due.is("13 search", x.search(), 2 + i);
            Due.is("13 short " + i, x.found(2 + i, 4), 1);
            Due.is("13 fine " + i, x.found(2 + i, 5), fines[i]);
            Due.is("13 barred " + i, x.about(0, 6), from[i]);
            Due.is("13 shorts " + i, x.about(0, 4), i + 1);
        }
        Due.is("13 fines in all", x.about(0, 5), 216);
        Due.is("12 barred", x.bake(0, 0, 1, 1), STATE);
        Due.is("12 barred ahead of no flour", x.bake(0, 0, 500, 2000), STATE);
        Due.is("12 outside ahead of barred", x.bake(0, 0, 501, 2000), OUTSIDE);
        x.go(67 + 168);
        Due.is("12 last hour barred", x.told(1), 167);
        Due.is("12 last hour barred", x.bake(0, 0, 1, 1000), STATE);
        x.go(1);
        Due.is("12 no longer barred", x.bake(0, 0, 1, 1000), 8);
        Due.is("13 search", x.search(), 9);
        Due.is("13 fresh and full", x.found(9, 4), 0);
        Due.is("13 no fine", x.found(9, 5), 0);
        Due.is("13 week stays told", x.about(0, 6), 3);
        x.go(1);
        x.rules(1, 1000);
        x.search();
        Due.is("13 four fines at most", x.found(10, 5), 4000);
        Due.is("13 barred again", x.about(0, 6), 5);
        Town.fillBook(x);
        Due.is("12 barred ahead of full", x.bake(0, 0, 1, 1), STATE);
    }

    private static void promise13SearchLooksAtTextsNow() {
        BreadLaw x = Town.withFlour(1);
        x.bake(0, 1, 1, 1000);
        x.go(168 + 10);
        x.search();
        Due.is("13 no text", x.found(2, 3), 0);
        Due.is("13 no text, not short", x.found(2, 4), 0);
        Due.is("13 age over weeks", x.found(2, 1), 178);
        Due.is("13 dried", x.found(2, 2), 822);
        x.text(1, 300, 300, 300, 0);
        x.step(0, 0, 1000);
        x.search();
        Due.is("13 text of a later week", x.found(3, 3), 0);
        x.text(0, 10, 101, 10, 1);
        x.step(1, 0, 1000);
        x.search();
        Due.is("13 text of its week, told later", x.found(4, 3), 1010 * 822 / 1000);
        Due.is("13 short", x.found(4, 4), 1);
        Due.is("13 the search ahead is as it was", x.found(3, 3), 0);
        Due.is("13 the search ahead was not short", x.found(3, 4), 0);
        x.text(0, 10, 100, 10, 1);
        x.step(2, 0, 1000);
        x.search();
        Due.is("13 as much as asked is not short", x.found(5, 2), x.found(5, 3));
        Due.is("13 as much as asked is not short", x.found(5, 4), 0);
        x.rules(5, 12);
        x.go(168);
        x.search();
        Due.is("13 weighs at least 0", x.found(6, 2), 0);
        Due.is("13 short", x.found(6, 4), 1);
        x.text(0, 10, 100, 10, 5);
        x.step(3, 0, 1000);
        x.search();
        Due.is("13 asked is at least 0", x.found(7, 3), 0);
        Due.is("13 0 is not below 0", x.found(7, 4), 0);
        Due.is("13 shorts", x.about(0, 4), 2);
    }

    private static void promise14Turn() {
        BreadLaw none = new BreadLaw();
        Due.is("14 no bakers", none.turn(), STATE);
        BreadLaw one = Town.withBakers(1);
        for (int i = 0; i < 3; i++) {
            Due.is("14 one baker", one.turn(), 0);
            one.search();
        }
        // Rows as the words draw them, worked out here once more with long arithmetic.
        long[] s = {1};
        BreadLaw x = Town.withBakers(8);
        for (int round = 0; round < 5; round++) {
            int[] row = drawn(8, s);
            for (int i = 0; i < 8; i++) {
                Due.is("14 round " + round + " place " + i, x.turn(), row[i]);
                Due.is("14 asked again", x.turn(), row[i]);
                x.search();
            }
        }
        long[] t = {1};
        BreadLaw y = Town.withBakers(4);
        int[] first = drawn(4, t);
        Due.is("14 first of four", y.turn(), first[0]);
        y.search();
        y.baker();
        y.baker();
        int[] second = drawn(6, t);
        Due.is("14 one new row for the bakers that came", y.turn(), second[0]);
        Town.fillBook(y);
        Due.is("14 a full book", y.turn(), second[0]);
    }

    private static int[] drawn(int n, long[] s) {
        int[] row = new int[n];
        for (int i = 0; i < n; i++) {
            row[i] = i;
        }
        for (int k = n - 1; k >= 1; k--) {
            s[0] = (s[0] * 1103515245L + 12345L) % (1L << 31);
            int other = (int) ((s[0] / 65536) % (k + 1));
            int kept = row[k];
            row[k] = row[other];
            row[other] = kept;
        }
        return row;
    }

    private static void promise15Rules() {
        BreadLaw x = Town.withFlour(1);
        Due.is("15 dry", x.rules(-1, 0), OUTSIDE);
        Due.is("15 dry", x.rules(6, 0), OUTSIDE);
        Due.is("15 fine", x.rules(0, -1), OUTSIDE);
        Due.is("15 fine", x.rules(0, 1001), OUTSIDE);
        for (int far : FAR) {
            Due.is("15 far", x.rules(far, 0), OUTSIDE);
            Due.is("15 far", x.rules(0, far), OUTSIDE);
        }
        x.text(0, 100, 100, 100, 0);
        x.step(0, 0, 1000);
        x.bake(0, 0, 1, 1000);
        x.go(1);
        x.search();
        Due.is("15 refused rules change nothing", x.found(2, 2), 999);
        Due.is("15 refused rules change nothing", x.found(2, 5), 12);
        Due.is("15 rules", x.rules(5, 1000), 1);
        x.search();
        Due.is("15 dry", x.found(3, 2), 995);
        Due.is("15 fine", x.found(3, 5), 2000);
        Due.is("15 rules", x.rules(0, 0), 1);
        x.search();
        Due.is("15 dry", x.found(4, 2), 1000);
        Due.is("15 not short", x.found(4, 4), 0);
        x.rules(5, 0);
        x.search();
        Due.is("15 no fine", x.found(5, 5), 0);
        Due.is("15 short all the same", x.about(0, 4), 3);
    }

    private static void promise16Record() {
        BreadLaw x = Town.withBakers(2);
        x.go(170);
        x.buy(1, 10, 10);
        x.go(166);
        x.grind(0);
        x.bake(1, 0, 1, 1);
        x.search();
        int[][] want = {{1, 1, 2, 1}, {2, 2, 0, 1}, {3, 2, 0, 0}};
        want[2][3] = drawn(2, new long[] {1})[0];
        for (int i = 0; i < want.length; i++) {
            for (int what = 0; what < 4; what++) {
                Due.is("16 record " + i + " " + what, x.record(i, what), want[i][what]);
            }
        }
        Due.is("16 what", x.record(0, 4), OUTSIDE);
        Due.is("16 what", x.record(0, -1), OUTSIDE);
        Due.is("16 no record", x.record(3, 0), UNKNOWN);
        Due.is("16 no record", x.record(-1, 4), UNKNOWN);
        for (int far : FAR) {
            Due.is("16 far", x.record(far, 0), UNKNOWN);
            Due.is("16 far", x.record(0, far), OUTSIDE);
        }
        Town.fillBook(x);
        Due.is("16 the last", x.record(199, 0), 1);
        Due.is("16 behind the last", x.record(200, 0), UNKNOWN);
    }

    private static void promise17Lot() {
        BreadLaw x = Town.withBakers(1);
        x.buy(0, 1600, 7);
        int[] bought = {1600, 7, 0, 0};
        int[] ground = {1600, 7, 1, 1500};
        for (int what = 0; what < 4; what++) {
            Due.is("17 bought " + what, x.lot(0, what), bought[what]);
        }
        x.grind(0);
        for (int what = 0; what < 4; what++) {
            Due.is("17 ground " + what, x.lot(0, what), ground[what]);
        }
        x.bake(0, 0, 1, 400);
        x.search();
        Due.is("17 left", x.lot(0, 3), 1100);
        Due.is("17 what", x.lot(0, 4), OUTSIDE);
        Due.is("17 what", x.lot(0, -1), OUTSIDE);
        Due.is("17 a batch", x.lot(1, 0), NO);
        Due.is("17 a search", x.lot(2, 0), NO);
        Due.is("17 outside ahead of no", x.lot(1, 4), OUTSIDE);
        Due.is("17 no record", x.lot(3, 4), UNKNOWN);
        for (int far : FAR) {
            Due.is("17 far", x.lot(far, 0), UNKNOWN);
            Due.is("17 far", x.lot(0, far), OUTSIDE);
        }
    }

    private static void promise18Batch() {
        BreadLaw x = Town.withFlour(1);
        x.bake(0, 2, 3, 500);
        x.search();
        int[] want = {2, 3, 500, 1};
        for (int what = 0; what < 4; what++) {
            Due.is("18 batch " + what, x.batch(1, what), want[what]);
        }
        for (int what = 4; what < 10; what++) {
            Due.is("18 what " + what, x.batch(1, what), OUTSIDE);
            Due.is("18 outside ahead of no " + what, x.batch(0, what), OUTSIDE);
        }
        Due.is("18 what", x.batch(1, -1), OUTSIDE);
        Due.is("18 what", x.batch(1, Integer.MIN_VALUE), OUTSIDE);
        Due.is("18 lot that gave", x.batch(1, 10), 0);
        Due.is("18 its ounces", x.batch(1, 11), 1500);
        Due.is("18 not so many", x.batch(1, 12), NONE);
        Due.is("18 not so many", x.batch(1, 13), NONE);
        Due.is("18 not so many", x.batch(1, Integer.MAX_VALUE), NONE);
        Due.is("18 a lot", x.batch(0, 0), NO);
        Due.is("18 a lot", x.batch(0, 10), NO);
        Due.is("18 a search", x.batch(2, 0), NO);
        Due.is("18 no record", x.batch(3, 4), UNKNOWN);
        for (int far : FAR) {
            Due.is("18 far", x.batch(far, 0), UNKNOWN);
        }
    }

    private static void promise19Found() {
        BreadLaw x = Town.withFlour(1);
        x.search();
        int[] without = {NONE, 0, 0, 0, 0, 0};
        for (int what = 0; what < 6; what++) {
            Due.is("19 without a batch " + what, x.found(1, what), without[what]);
        }
        x.text(0, 100, 100, 100, 2);
        x.step(0, 0, 777);
        x.rules(3, 9);
        x.bake(0, 0, 1, 1);
        x.bake(0, 0, 1, 778);
        x.go(7);
        x.search();
        int[] with = {3, 7, 778 * 979 / 1000, 777 * 986 / 1000, 1, 9};
        for (int what = 0; what < 6; what++) {
            Due.is("19 found " + what, x.found(4, what), with[what]);
        }
        Due.is("19 what", x.found(4, 6), OUTSIDE);
        Due.is("19 what", x.found(4, -1), OUTSIDE);
        Due.is("19 a lot", x.found(0, 0), NO);
        Due.is("19 a batch", x.found(3, 0), NO);
        Due.is("19 outside ahead of no", x.found(3, 6), OUTSIDE);
        Due.is("19 no record", x.found(5, 6), UNKNOWN);
        for (int far : FAR) {
            Due.is("19 far", x.found(far, 0), UNKNOWN);
            Due.is("19 far", x.found(4, far), OUTSIDE);
        }
    }

    private static void promise20About() {
        BreadLaw x = Town.withBakers(1);
        int[] first = {0, 0, 0, 0, 0, 0, 0, NONE};
        for (int what = 0; what < 8; what++) {
            Due.is("20 at first " + what, x.about(0, what), first[what]);
        }
        x.buy(0, 1600, 100);
        x.buy(0, 1600, 100);
        x.grind(1);
        x.text(0, 100, 100, 100, 0);
        x.step(0, 0, 1000);
        x.bake(0, 0, 1, 100);
        for (int i = 0; i < 4; i++) {
            x.search();
        }
        x.baker();
        int[] then = {1400, 2, 1, 4, 4, 120, 2, 2};
        for (int what = 0; what < 8; what++) {
            Due.is("20 then " + what, x.about(0, what), then[what]);
            Due.is("20 the other " + what, x.about(1, what), first[what]);
        }
        Due.is("20 what", x.about(0, 8), OUTSIDE);
        Due.is("20 what", x.about(0, -1), OUTSIDE);
        Due.is("20 no baker", x.about(2, 8), UNKNOWN);
        Due.is("20 no baker", x.about(-1, 0), UNKNOWN);
        for (int far : FAR) {
            Due.is("20 far", x.about(far, 0), UNKNOWN);
            Due.is("20 far", x.about(0, far), OUTSIDE);
        }
    }

    private static void promise21Store() {
        BreadLaw x = new BreadLaw();
        Due.is("21 store", x.store(0), OUTSIDE);
        Due.is("21 store", x.store(10000001), OUTSIDE);
        for (int far : FAR) {
            Due.is("21 far", x.store(far), OUTSIDE);
        }
        Due.is("21 least", x.store(1), 1);
        for (int i = 1; i < 10; i++) {
            Due.is("21 most", x.store(10000000), i * 10000000 + 1);
        }
        Due.is("21 beyond", x.store(10000000), FULL);
        Due.is("21 nothing came", x.told(6), 90000001);
        Due.is("21 all it holds", x.store(9999999), 100000000);
        Due.is("21 full", x.store(1), FULL);
        Due.is("21 outside ahead of full", x.store(0), OUTSIDE);
    }

    private static void promise22Mouths() {
        BreadLaw x = new BreadLaw();
        Due.is("22 mouths", x.mouths(-1, 1), OUTSIDE);
        Due.is("22 mouths", x.mouths(10001, 1), OUTSIDE);
        Due.is("22 each", x.mouths(1, 0), OUTSIDE);
        Due.is("22 each", x.mouths(1, 1001), OUTSIDE);
        for (int far : FAR) {
            Due.is("22 far", x.mouths(far, 1), OUTSIDE);
            Due.is("22 far", x.mouths(1, far), OUTSIDE);
        }
        Due.is("22 none changed", x.foretell(100), NONE);
        for (int i = 0; i < 10; i++) {
            x.store(10000000);
        }
        Due.is("22 most", x.mouths(10000, 1000), 1);
        x.go(168);
        Due.is("22 eaten", x.told(6), 90000000);
        Due.is("22 least", x.mouths(0, 1), 1);
        x.go(168);
        Due.is("22 nothing eaten", x.told(6), 90000000);
        x.mouths(3, 7);
        x.ration(50);
        x.go(168);
        Due.is("22 cut", x.told(6), 89999990);
        x.go(167);
        Due.is("22 only at the end of a week", x.told(6), 89999990);
        Due.is("22 no hunger", x.told(7), 0);

        BreadLaw y = new BreadLaw();
        y.mouths(1, 100);
        y.store(250);
        y.go(168 * 2);
        Due.is("22 two weeks", y.told(6), 50);
        y.go(168);
        Due.is("22 all there is", y.told(6), 0);
        Due.is("22 hunger", y.told(7), 1);
        y.go(168 * 3);
        Due.is("22 more hunger", y.told(7), 4);
        y.store(100);
        y.go(168);
        Due.is("22 just enough", y.told(7), 4);
        Due.is("22 just enough", y.told(6), 0);
    }

    private static void promise23Ration() {
        BreadLaw x = new BreadLaw();
        Due.is("23 ration", x.ration(0), OUTSIDE);
        Due.is("23 ration", x.ration(101), OUTSIDE);
        for (int far : FAR) {
            Due.is("23 far", x.ration(far), OUTSIDE);
        }
        Due.is("23 first", x.ration(1), 100);
        Due.is("23 second", x.ration(100), 1);
        Due.is("23 third", x.ration(33), 100);
        Due.is("23 told", x.told(8), 33);
        x.mouths(1, 1);
        x.go(168);
        Due.is("23 a need cut to 0 is no hunger", x.told(7), 0);
    }

    private static void promise24Harvest() {
        BreadLaw x = new BreadLaw();
        Due.is("24 week", x.harvest(-1, 1), OUTSIDE);
        Due.is("24 week", x.harvest(200, 1), OUTSIDE);
        Due.is("24 ounces", x.harvest(1, 0), OUTSIDE);
        Due.is("24 ounces", x.harvest(1, 10000001), OUTSIDE);
        Due.is("24 outside ahead of no", x.harvest(0, 0), OUTSIDE);
        for (int far : FAR) {
            Due.is("24 far", x.harvest(far, 1), OUTSIDE);
            Due.is("24 far", x.harvest(1, far), OUTSIDE);
        }
        Due.is("24 today's week", x.harvest(0, 1), NO);
        Due.is("24 next week", x.harvest(1, 5), 1);
        Due.is("24 same week", x.harvest(1, 6), 2);
        Due.is("24 last week", x.harvest(199, 10000000), 3);
        x.go(167);
        Due.is("24 not yet", x.told(6), 0);
        x.go(1);
        Due.is("24 at its beginning", x.told(6), 11);
        Due.is("24 to come", x.told(9), 1);
        Due.is("24 earlier week", x.harvest(0, 1), NO);
        Due.is("24 today's week", x.harvest(1, 1), NO);
        for (int i = 2; i <= 10; i++) {
            Due.is("24 to come", x.harvest(i, 10000000), i);
        }
        Due.is("24 full", x.harvest(50, 1), FULL);
        Due.is("24 full, of the same week", x.harvest(2, 1), FULL);
        Due.is("24 outside ahead of full", x.harvest(200, 1), OUTSIDE);
        Due.is("24 full ahead of no", x.harvest(1, 1), FULL);
        x.go(168);
        Due.is("24 came in", x.told(6), 10000011);
        Due.is("24 there is room again", x.harvest(50, 1), 10);
        Due.is("24 full", x.harvest(50, 1), FULL);
        x.store(10000000);
        x.store(10000000);
        x.go(168 * 8);
        Due.is("24 what is beyond is lost", x.told(6), 100000000);
        Due.is("24 to come", x.told(9), 2);

        BreadLaw hungry = new BreadLaw();
        hungry.mouths(1, 100);
        hungry.harvest(1, 100);
        hungry.go(168);
        Due.is("24 a week ends ahead of the next harvest", hungry.told(7), 1);
        Due.is("24 a week ends ahead of the next harvest", hungry.told(6), 100);
        hungry.go(168);
        Due.is("24 eaten", hungry.told(7), 1);
    }

    private static void promise25Foretell() {
        BreadLaw x = new BreadLaw();
        Due.is("25 ration", x.foretell(0), OUTSIDE);
        Due.is("25 ration", x.foretell(101), OUTSIDE);
        for (int far : FAR) {
            Due.is("25 far", x.foretell(far), OUTSIDE);
        }
        x.mouths(1, 100);
        Due.is("25 at once", x.foretell(1), 0);
        x.store(10000000);
        Due.is("25 never", x.foretell(100), NONE);
        x.mouths(10000, 1000);
        Due.is("25 after one week", x.foretell(100), 1);
        Due.is("25 after a hundred", x.foretell(1), 100);
        x.harvest(100, 100000);
        Due.is("25 one week more by a harvest", x.foretell(1), 101);
        x.harvest(100, 9800000);
        Due.is("25 to the last week", x.foretell(1), 199);
        x.harvest(199, 99999);
        Due.is("25 an ounce too little", x.foretell(1), 199);
        x.harvest(199, 1);
        Due.is("25 never", x.foretell(1), NONE);
        Due.is("25 nothing changed", x.told(6) + x.told(7), 10000000);
        Due.is("25 the ration is as it was", x.told(8), 100);

        BreadLaw once = new BreadLaw();
        once.harvest(1, 200);
        once.go(168);
        once.mouths(1, 100);
        Due.is("25 a harvest that came does not come again", once.foretell(100), 3);
        Due.is("26 a harvest that came does not come again", once.order(4), 50);

        BreadLaw y = new BreadLaw();
        for (int i = 0; i < 10; i++) {
            y.store(10000000);
        }
        y.mouths(10000, 1000);
        y.harvest(1, 10000000);
        y.harvest(1, 10000000);
        y.harvest(1, 10000000);
        Due.is("25 what is beyond is lost", y.foretell(100), 11);
        y.go(168);
        Due.is("25 from now", y.foretell(100), 11);
        Due.is("25 the harvest came", y.told(6), 100000000);
        y.go(5000);
        Due.is("25 hunger now", y.foretell(100), 30);
    }

    private static void promise26Order() {
        BreadLaw x = new BreadLaw();
        Due.is("26 no mouths", x.order(199), 100);
        Due.is("26 week", x.order(-1), OUTSIDE);
        Due.is("26 week", x.order(200), OUTSIDE);
        for (int far : FAR) {
            Due.is("26 far", x.order(far), OUTSIDE);
        }
        x.mouths(100, 100);
        Due.is("26 nothing to eat", x.order(0), NONE);
        for (int ration = 1; ration <= 100; ration++) {
            x.store(100);
            Due.is("26 one week", x.order(0), ration);
        }
        Due.is("26 two weeks", x.order(1), 50);
        Due.is("26 three weeks", x.order(2), 33);
        Due.is("26 a hundred", x.order(99), 1);
        Due.is("26 too many", x.order(100), NONE);
        x.harvest(50, 4900);
        Due.is("26 the harvest is for those behind it", x.order(49), 2);
        Due.is("26 all of them", x.order(148), 1);
        Due.is("26 one too many", x.order(149), NONE);
        x.ration(1);
        x.go(168 * 10);
        Due.is("26 a week ahead", x.order(9), OUTSIDE);
        Due.is("26 now", x.order(10), 90);
        Due.is("26 nothing changed", x.told(6), 9000);
        Due.is("26 the ration is as it was", x.told(8), 1);
    }

    private static void promise27Told() {
        BreadLaw x = Town.withBakers(3);
        x.text(0, 100, 100, 100, 0);
        x.text(0, 100, 100, 100, 0);
        x.buy(0, 160, 1);
        x.buy(0, 320, 1);
        x.grind(0);
        x.grind(1);
        x.search();
        x.search();
        x.store(150);
        x.mouths(1, 100);
        x.ration(99);
        x.harvest(4, 77);
        x.harvest(5, 1);
        x.go(168 * 4 + 9);
        int[] want = {4, 9, 3, 2, 4, 30, 77, 3, 99, 1};
        for (int what = 0; what < want.length; what++) {
            Due.is("27 told " + what, x.told(what), want[what]);
        }
        Due.is("27 what", x.told(-1), OUTSIDE);
        Due.is("27 what", x.told(10), OUTSIDE);
        for (int far : FAR) {
            Due.is("27 far", x.told(far), OUTSIDE);
        }
    }
}

/** Bread by law: corn, flour, loaves, searches and the town's store. README.md tells how to use it. */
public final class BreadLaw {
    public static final int UNKNOWN = -1, OUTSIDE = -2, STATE = -3, FULL = -4, NO = -5, NONE = -6;

    private static final int WEEKS = 200, WEEK_HOURS = 168;
    private static final int MOST_BAKERS = 8, MOST_RECORDS = 200, MOST_TEXTS = 6, MOST_STEPS = 8;
    private static final int MOST_HARVESTS = 10, KINDS = 3;
    private static final int SORT_LOT = 1, SORT_BATCH = 2, SORT_SEARCH = 3;
    private static final int FIRST_PRICE = 100, MOST_FINES_AT_ONCE = 4, BARRED_WEEKS = 2;
    private static final int STORE_HOLDS = 100000000, MOST_AT_ONCE = 10000000, WHOLE_RATION = 100;

    private final Book book;
    private final Market market;
    private final Law law;
    private final Turns turns;
    private final Granary granary;
    private final Baker[] bakers;
    private int bakerCount;
    private int now;
    private int dish;
    private int dry;
    private int fine;
    private int millerKept;

    public BreadLaw() {
        book = new Book();
        market = new Market();
        law = new Law();
        turns = new Turns();
        granary = new Granary();
        bakers = new Baker[MOST_BAKERS];
        dish = 16;
        dry = 1;
        fine = 12;
    }

    // ---- 1 time, corn

    public int go(int hours) {
        if (isOutside(hours, 1, 5000)) {
            return OUTSIDE;
        }
        int then = now + hours;
        if (then >= WEEKS * WEEK_HOURS) {
            return STATE;
        }
        int lastWeek = then / WEEK_HOURS;
        for (int week = weekNow() + 1; week <= lastWeek; week++) {
            granary.endWeek();
            granary.beginWeek(week);
        }
        now = then;
        return lastWeek;
    }

    public int baker() {
        if (bakerCount >= MOST_BAKERS) {
            return FULL;
        }
        bakers[bakerCount] = new Baker();
        bakerCount++;
        turns.dropRow();
        return bakerCount - 1;
    }

    public int buy(int baker, int ounces, int price) {
        Baker buyer = bakerAt(baker);
        if (buyer == null) {
            return UNKNOWN;
        }
        if (isOutside(ounces, 1, 100000) || isOutside(price, 1, 1000)) {
            return OUTSIDE;
        }
        if (book.isFull()) {
            return FULL;
        }
        Lot lot = new Lot(book.count, now, baker, ounces, price);
        book.enter(lot);
        market.note(lot);
        buyer.lots++;
        return lot.number;
    }

    public int grind(int record) {
        Entry entry = book.entryAt(record);
        if (entry == null) {
            return UNKNOWN;
        }
        if (entry instanceof Lot lot) {
            return lot.isGround ? STATE : toMill(lot);
        }
        return NO;
    }

    public int dish(int n) {
        if (isOutside(n, 2, 100)) {
            return OUTSIDE;
        }
        int before = dish;
        dish = n;
        return before;
    }

    public int price(int week) {
        if (isOutside(week, -1, weekNow())) {
            return UNKNOWN;
        }
        return market.priceOf(week);
    }

    // ---- 2 law

    public int text(int week, int share0, int share1, int share2, int allowance) {
        if (isOutside(week, 0, WEEKS - 1) || isOutside(allowance, 0, 5)) {
            return OUTSIDE;
        }
        if (isOutside(share0, 10, 300) || isOutside(share1, 10, 300) || isOutside(share2, 10, 300)) {
            return OUTSIDE;
        }
        if (law.isFull()) {
            return FULL;
        }
        Text text = new Text(law.count, week, share0, share1, share2, allowance);
        law.enact(text);
        return text.number;
    }

    public int step(int text, int price, int ounces) {
        Text changed = law.textAt(text);
        if (changed == null) {
            return UNKNOWN;
        }
        if (isOutside(price, 0, 1000) || isOutside(ounces, 1, 1000)) {
            return OUTSIDE;
        }
        if (changed.isFull()) {
            return FULL;
        }
        changed.addStep(price, ounces);
        return changed.steps;
    }

    public int inForce(int week) {
        if (isOutside(week, 0, WEEKS - 1)) {
            return UNKNOWN;
        }
        Text text = law.ruling(week);
        return text == null ? NONE : text.number;
    }

    public int due(int kind, int week) {
        if (isOutside(week, 0, weekNow())) {
            return UNKNOWN;
        }
        if (isOutside(kind, 0, KINDS - 1)) {
            return OUTSIDE;
        }
        return dueBy(law.ruling(week), kind, week);
    }

    public int bake(int baker, int kind, int n, int weight) {
        Baker maker = bakerAt(baker);
        if (maker == null) {
            return UNKNOWN;
        }
        if (isOutside(kind, 0, KINDS - 1) || isOutside(n, 1, 500) || isOutside(weight, 1, 2000)) {
            return OUTSIDE;
        }
        if (weekNow() < maker.mayBakeFrom) {
            return STATE;
        }
        if (book.isFull()) {
            return FULL;
        }
        if (maker.flour < n * weight) {
            return NO;
        }
        Batch batch = new Batch(book.count, now, baker, kind, n, weight);
        book.enter(batch);
        book.takeFlour(batch);
        maker.flour -= n * weight;
        maker.batches++;
        maker.latest = batch;
        return batch.number;
    }

    // ---- 3 searches

    public int search() {
        if (bakerCount == 0) {
            return STATE;
        }
        if (book.isFull()) {
            return FULL;
        }
        int number = turns.upNext(bakerCount);
        Baker searched = bakerAt(number);
        if (searched == null) {
            return STATE;
        }
        turns.moveOn();
        Search search = new Search(book.count, now, number);
        book.enter(search);
        searched.searches++;
        weighLatest(search, searched);
        if (search.isShort) {
            punish(search, searched);
        }
        return search.number;
    }

    public int turn() {
        return bakerCount == 0 ? STATE : turns.upNext(bakerCount);
    }

    public int rules(int dry, int fine) {
        if (isOutside(dry, 0, 5) || isOutside(fine, 0, 1000)) {
            return OUTSIDE;
        }
        this.dry = dry;
        this.fine = fine;
        return 1;
    }

    public int record(int i, int what) {
        Entry entry = book.entryAt(i);
        if (entry == null) {
            return UNKNOWN;
        }
        switch (what) {
            case 0: return entry.sort;
            case 1: return entry.week();
            case 2: return entry.at % WEEK_HOURS;
            case 3: return entry.baker;
            default: return OUTSIDE;
        }
    }

    public int lot(int record, int what) {
        Entry entry = book.entryAt(record);
        if (entry == null) {
            return UNKNOWN;
        }
        if (isOutside(what, 0, 3)) {
            return OUTSIDE;
        }
        if (entry instanceof Lot lot) {
            return lot.detail(what);
        }
        return NO;
    }

    public int batch(int record, int what) {
        Entry entry = book.entryAt(record);
        if (entry == null) {
            return UNKNOWN;
        }
        if (what < 0 || (what > 3 && what < 10)) {
            return OUTSIDE;
        }
        if (entry instanceof Batch batch) {
            return what < 10 ? batch.detail(what) : book.giftDetail(batch, what - 10);
        }
        return NO;
    }

    public int found(int record, int what) {
        Entry entry = book.entryAt(record);
        if (entry == null) {
            return UNKNOWN;
        }
        if (isOutside(what, 0, 5)) {
            return OUTSIDE;
        }
        if (entry instanceof Search search) {
            return search.detail(what);
        }
        return NO;
    }

    public int about(int baker, int what) {
        Baker member = bakerAt(baker);
        if (member == null) {
            return UNKNOWN;
        }
        return member.detail(what);
    }

    // ---- 4 the store

    public int store(int ounces) {
        if (isOutside(ounces, 1, MOST_AT_ONCE)) {
            return OUTSIDE;
        }
        if (granary.ounces + ounces > STORE_HOLDS) {
            return FULL;
        }
        granary.ounces += ounces;
        return granary.ounces;
    }

    public int mouths(int n, int each) {
        if (isOutside(n, 0, 10000) || isOutside(each, 1, 1000)) {
            return OUTSIDE;
        }
        granary.mouths = n;
        granary.each = each;
        return 1;
    }

    public int ration(int r) {
        if (isOutside(r, 1, WHOLE_RATION)) {
            return OUTSIDE;
        }
        int before = granary.ration;
        granary.ration = r;
        return before;
    }

    public int harvest(int week, int ounces) {
        if (isOutside(week, 0, WEEKS - 1) || isOutside(ounces, 1, MOST_AT_ONCE)) {
            return OUTSIDE;
        }
        // The Terms put FULL ahead of NO, and the promise does not say otherwise as that of grind does.
        if (granary.toCome >= MOST_HARVESTS) {
            return FULL;
        }
        if (week <= weekNow()) {
            return NO;
        }
        granary.expect(week, ounces);
        return granary.toCome;
    }

    public int foretell(int ration) {
        if (isOutside(ration, 1, WHOLE_RATION)) {
            return OUTSIDE;
        }
        return granary.firstHunger(weekNow(), WEEKS - 1, ration);
    }

    public int order(int week) {
        if (isOutside(week, weekNow(), WEEKS - 1)) {
            return OUTSIDE;
        }
        return granary.greatestRation(weekNow(), week);
    }

    public int told(int what) {
        switch (what) {
            case 0: return weekNow();
            case 1: return now % WEEK_HOURS;
            case 2: return bakerCount;
            case 3: return law.count;
            case 4: return book.count;
            case 5: return millerKept;
            case 6: return granary.ounces;
            case 7: return granary.hungerWeeks;
            case 8: return granary.ration;
            case 9: return granary.toCome;
            default: return OUTSIDE;
        }
    }

    // ---- what the calls share

    private static boolean isOutside(int number, int least, int most) {
        return number < least || number > most;
    }

    private int weekNow() {
        return now / WEEK_HOURS;
    }

    private Baker bakerAt(int number) {
        return number < 0 || number >= bakerCount ? null : bakers[number];
    }

    private int toMill(Lot lot) {
        int kept = dish > 0 ? lot.ounces / dish : 0;
        lot.isGround = true;
        lot.flour = lot.ounces - kept;
        book.queueFlour(lot);
        Baker owner = bakerAt(lot.baker);
        if (owner != null) {
            owner.flour += lot.flour;
        }
        millerKept += kept;
        return kept;
    }

    private int dueBy(Text text, int kind, int week) {
        return text == null ? 0 : text.loaf(kind, market.priceOf(week - 1));
    }

    private void weighLatest(Search search, Baker searched) {
        Batch batch = searched.latest;
        if (batch == null) {
            return;
        }
        Text text = law.ruling(batch.week());
        int allowance = text == null ? 0 : text.allowance;
        search.batch = batch.number;
        search.age = now - batch.at;
        search.weighed = lessened(batch.weight, dry, search.age);
        search.asked = lessened(dueBy(text, batch.kind, batch.week()), allowance, search.age);
        search.isShort = search.weighed < search.asked;
    }

    private static int lessened(int ounces, int thousandths, int hours) {
        return Math.max(0, ounces * (1000 - thousandths * hours) / 1000);
    }

    private void punish(Search search, Baker searched) {
        searched.shorts++;
        search.fine = fine * Math.min(searched.shorts, MOST_FINES_AT_ONCE);
        searched.fines += search.fine;
        if (searched.shorts >= MOST_FINES_AT_ONCE) {
            searched.mayBakeFrom = weekNow() + BARRED_WEEKS;
        }
    }

    /** What the three sorts of records have in common. */
    private abstract static class Entry {
        final int sort;
        final int number;
        final int at;
        final int baker;

        Entry(int sort, int number, int at, int baker) {
            this.sort = sort;
            this.number = number;
            this.at = at;
            this.baker = baker;
        }

        final int week() {
            return at / WEEK_HOURS;
        }
    }

    private static final class Lot extends Entry {
        final int ounces;
        final int price;
        boolean isGround;
        int flour;

        Lot(int number, int at, int baker, int ounces, int price) {
            super(SORT_LOT, number, at, baker);
            this.ounces = ounces;
            this.price = price;
        }

        int detail(int what) {
            switch (what) {
                case 0: return ounces;
                case 1: return price;
                case 2: return isGround ? 1 : 0;
                case 3: return flour;
                default: return OUTSIDE;
            }
        }
    }

    private static final class Batch extends Entry {
        final int kind;
        final int loaves;
        final int weight;
        int firstGift;
        int gifts;

        Batch(int number, int at, int baker, int kind, int loaves, int weight) {
            super(SORT_BATCH, number, at, baker);
            this.kind = kind;
            this.loaves = loaves;
            this.weight = weight;
        }

        int detail(int what) {
            switch (what) {
                case 0: return kind;
                case 1: return loaves;
                case 2: return weight;
                case 3: return gifts;
                default: return OUTSIDE;
            }
        }
    }

    private static final class Search extends Entry {
        int batch;
        int age;
        int weighed;
        int asked;
        boolean isShort;
        int fine;

        Search(int number, int at, int baker) {
            super(SORT_SEARCH, number, at, baker);
            batch = NONE;
        }

        int detail(int what) {
            switch (what) {
                case 0: return batch;
                case 1: return age;
                case 2: return weighed;
                case 3: return asked;
                case 4: return isShort ? 1 : 0;
                case 5: return fine;
                default: return OUTSIDE;
            }
        }
    }

    /** The records, the ground lots in their order, and what each lot gave to which batch. */
    private static final class Book {
        final Entry[] entries;
        final Lot[] ground;
        // A batch empties all the lots it takes from but the last, so that lots and batches
        // together are never fewer than the gifts: one row as long as the book holds them all.
        final int[] giftLots;
        final int[] giftOunces;
        int count;
        int groundCount;
        int giftCount;

        Book() {
            entries = new Entry[MOST_RECORDS];
            ground = new Lot[MOST_RECORDS];
            giftLots = new int[MOST_RECORDS];
            giftOunces = new int[MOST_RECORDS];
        }

        boolean isFull() {
            return count >= MOST_RECORDS;
        }

        void enter(Entry entry) {
            if (!isFull()) {
                entries[count] = entry;
                count++;
            }
        }

        Entry entryAt(int i) {
            return i < 0 || i >= count ? null : entries[i];
        }

        void queueFlour(Lot lot) {
            if (groundCount < MOST_RECORDS) {
                ground[groundCount] = lot;
                groundCount++;
            }
        }

        void takeFlour(Batch batch) {
            int wanted = batch.loaves * batch.weight;
            batch.firstGift = giftCount;
            for (int i = 0; i < groundCount && wanted > 0; i++) {
                Lot lot = ground[i];
                if (lot != null && lot.baker == batch.baker && lot.flour > 0) {
                    int gift = Math.min(wanted, lot.flour);
                    lot.flour -= gift;
                    wanted -= gift;
                    noteGift(batch, lot, gift);
                }
            }
        }

        void noteGift(Batch batch, Lot lot, int ounces) {
            if (giftCount < MOST_RECORDS) {
                giftLots[giftCount] = lot.number;
                giftOunces[giftCount] = ounces;
                giftCount++;
                batch.gifts++;
            }
        }

        int giftDetail(Batch batch, int what) {
            if (what < 0 || what / 2 >= batch.gifts) {
                return NONE;
            }
            int gift = batch.firstGift + what / 2;
            if (gift < 0 || gift >= giftCount) {
                return NONE;
            }
            return what % 2 == 0 ? giftLots[gift] : giftOunces[gift];
        }
    }

    /** What was bought and paid in each week. */
    private static final class Market {
        final long[] ounces;
        final long[] worth;

        Market() {
            ounces = new long[WEEKS];
            worth = new long[WEEKS];
        }

        void note(Lot lot) {
            int week = lot.week();
            if (week >= 0 && week < WEEKS) {
                ounces[week] += lot.ounces;
                worth[week] += (long) lot.price * lot.ounces;
            }
        }

        int priceOf(int week) {
            for (int w = Math.min(week, WEEKS - 1); w >= 0; w--) {
                if (ounces[w] > 0) {
                    return (int) (worth[w] / ounces[w]);
                }
            }
            return FIRST_PRICE;
        }
    }

    private static final class Baker {
        int flour;
        int lots;
        int batches;
        int searches;
        int shorts;
        int fines;
        int mayBakeFrom;
        Batch latest;

        int detail(int what) {
            switch (what) {
                case 0: return flour;
                case 1: return lots;
                case 2: return batches;
                case 3: return searches;
                case 4: return shorts;
                case 5: return fines;
                case 6: return mayBakeFrom;
                case 7: return latest == null ? NONE : latest.number;
                default: return OUTSIDE;
            }
        }
    }

    private static final class Text {
        final int number;
        final int week;
        final int allowance;
        final int[] shares;
        final int[] stepPrices;
        final int[] stepOunces;
        int steps;

        Text(int number, int week, int share0, int share1, int share2, int allowance) {
            this.number = number;
            this.week = week;
            this.allowance = allowance;
            shares = new int[KINDS];
            shares[0] = share0;
            shares[1] = share1;
            shares[2] = share2;
            stepPrices = new int[MOST_STEPS];
            stepOunces = new int[MOST_STEPS];
        }

        boolean isFull() {
            return steps >= MOST_STEPS;
        }

        void addStep(int price, int ounces) {
            if (!isFull()) {
                stepPrices[steps] = price;
                stepOunces[steps] = ounces;
                steps++;
            }
        }

        int loaf(int kind, int price) {
            if (kind < 0 || kind >= KINDS) {
                return 0;
            }
            return ouncesAt(price) * shares[kind] / 100;
        }

        int ouncesAt(int price) {
            int ounces = 0;
            int greatest = -1;
            for (int i = 0; i < steps; i++) {
                if (stepPrices[i] <= price && stepPrices[i] >= greatest) {
                    greatest = stepPrices[i];
                    ounces = stepOunces[i];
                }
            }
            return ounces;
        }
    }

    private static final class Law {
        final Text[] texts;
        int count;

        Law() {
            texts = new Text[MOST_TEXTS];
        }

        boolean isFull() {
            return count >= MOST_TEXTS;
        }

        void enact(Text text) {
            if (!isFull()) {
                texts[count] = text;
                count++;
            }
        }

        Text textAt(int number) {
            return number < 0 || number >= count ? null : texts[number];
        }

        Text ruling(int week) {
            Text best = null;
            for (int i = 0; i < count; i++) {
                Text text = texts[i];
                if (text != null && text.week <= week && (best == null || text.week >= best.week)) {
                    best = text;
                }
            }
            return best;
        }
    }

    /** The row of bakers in the order in which they are searched; drawn only when it is asked for. */
    private static final class Turns {
        final int[] row;
        int length;
        int next;
        int seed;

        Turns() {
            row = new int[MOST_BAKERS];
            seed = 1;
        }

        void dropRow() {
            length = 0;
            next = 0;
        }

        void moveOn() {
            next++;
        }

        int upNext(int bakers) {
            if (next >= length) {
                draw(Math.min(bakers, MOST_BAKERS));
            }
            return next >= 0 && next < length ? row[next] : NONE;
        }

        void draw(int bakers) {
            for (int i = 0; i < bakers; i++) {
                row[i] = i;
            }
            for (int k = bakers - 1; k >= 1; k--) {
                seed = (seed * 1103515245 + 12345) & 0x7fffffff;
                int other = seed / 65536 % (k + 1);
                int moved = row[k];
                row[k] = row[other];
                row[other] = moved;
            }
            length = bakers;
            next = 0;
        }
    }

    /** The town's store, who eats of it, and the harvests that are to come. */
    private static final class Granary {
        final int[] comingOunces;
        final int[] comingHarvests;
        int toCome;
        int ounces;
        int mouths;
        int each;
        int ration;
        int hungerWeeks;

        Granary() {
            comingOunces = new int[WEEKS];
            comingHarvests = new int[WEEKS];
            each = 100;
            ration = WHOLE_RATION;
        }

        void expect(int week, int harvested) {
            if (week >= 0 && week < WEEKS) {
                comingOunces[week] += harvested;
                comingHarvests[week]++;
                toCome++;
            }
        }

        int needWith(int hundredths) {
            return mouths * each * hundredths / 100;
        }

        int withHarvest(int stored, int week) {
            if (week < 0 || week >= WEEKS) {
                return stored;
            }
            return Math.min(STORE_HOLDS, stored + comingOunces[week]);
        }

        void endWeek() {
            int need = needWith(ration);
            if (ounces < need) {
                hungerWeeks++;
            }
            ounces = Math.max(0, ounces - need);
        }

        void beginWeek(int week) {
            ounces = withHarvest(ounces, week);
            if (week >= 0 && week < WEEKS) {
                toCome -= comingHarvests[week];
            }
        }

        int firstHunger(int from, int last, int hundredths) {
            int need = needWith(hundredths);
            int left = ounces;
            for (int week = from; week <= last; week++) {
                if (week > from) {
                    left = withHarvest(left, week);
                }
                if (left < need) {
                    return week;
                }
                left -= need;
            }
            return NONE;
        }

        // A smaller ration never leaves less in the store, so the good rations are all those
        // up to the greatest one, which is put together from powers of two.
        int greatestRation(int from, int last) {
            int good = 0;
            for (int more = 64; more > 0; more /= 2) {
                int tried = good + more;
                if (tried <= WHOLE_RATION && firstHunger(from, last, tried) == NONE) {
                    good = tried;
                }
            }
            return good == 0 ? NONE : good;
        }
    }
}

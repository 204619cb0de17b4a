import java.util.ArrayList;
import java.util.List;

/** The document once more, the plain way: lists of all that happened, each answer worked out anew. */
public final class PlainModel {
    private static final int UNKNOWN = -1, OUTSIDE = -2, STATE = -3, FULL = -4, NO = -5, NONE = -6;

    private record Lot(int week, int hour, int baker, int ounces, int price) {
    }

    private record Gift(int lot, int ounces) {
    }

    private record Batch(int week, int hour, int baker, int kind, int n, int weight, List<Gift> gifts) {
    }

    private record Found(int week, int hour, int baker, int[] told, int barredTill) {
    }

    private record Text(int week, int[] shares, int allowance, List<int[]> steps) {
    }

    private final List<Object> book = new ArrayList<>();
    private final List<int[]> ground = new ArrayList<>();
    private final List<Text> texts = new ArrayList<>();
    private final List<Integer> row = new ArrayList<>();
    private List<int[]> harvests = new ArrayList<>();
    private int week, hour, bakers, dish = 16, dry = 1, fine = 12, hunger;
    private long s = 1;
    private long stored, mouths, each = 100, ration = 100;

    public int go(int hours) {
        if (hours < 1 || hours > 5000) return OUTSIDE;
        if (week * 168 + hour + hours > 199 * 168 + 167) return STATE;
        for (int i = 0; i < hours; i++) {
            hour++;
            if (hour == 168) {
                hour = 0;
                nextWeek();
            }
        }
        return week;
    }

    private void nextWeek() {
        long need = mouths * each * ration / 100;
        if (stored < need) hunger++;
        stored -= Math.min(stored, need);
        week++;
        List<int[]> later = new ArrayList<>();
        for (int[] h : harvests) {
            if (h[0] == week) stored = Math.min(100000000, stored + h[1]);
            else later.add(h);
        }
        harvests = later;
    }

    public int baker() {
        if (bakers == 8) return FULL;
        row.clear();
        return bakers++;
    }

    private boolean noBaker(int b) {
        return b < 0 || b >= bakers;
    }

    private boolean noRecord(int r) {
        return r < 0 || r >= book.size();
    }

    public int buy(int b, int ounces, int price) {
        if (noBaker(b)) return UNKNOWN;
        if (ounces < 1 || ounces > 100000 || price < 1 || price > 1000) return OUTSIDE;
        if (book.size() == 200) return FULL;
        book.add(new Lot(week, hour, b, ounces, price));
        return book.size() - 1;
    }

    public int grind(int r) {
        if (noRecord(r)) return UNKNOWN;
        if (!(book.get(r) instanceof Lot lot)) return NO;
        for (int[] g : ground) if (g[0] == r) return STATE;
        ground.add(new int[] {r, lot.ounces() / dish});
        return lot.ounces() / dish;
    }

    public int dish(int n) {
        if (n < 2 || n > 100) return OUTSIDE;
        int was = dish;
        dish = n;
        return was;
    }

    public int price(int w) {
        if (w < -1 || w > week) return UNKNOWN;
        if (w == -1) return 100;
        long sum = 0;
        long ounces = 0;
        for (Object o : book) {
            if (o instanceof Lot lot && lot.week() == w) {
                sum += (long) lot.price() * lot.ounces();
                ounces += lot.ounces();
            }
        }
        return ounces == 0 ? price(w - 1) : (int) (sum / ounces);
    }

    public int text(int w, int s0, int s1, int s2, int allowance) {
        if (w < 0 || w > 199 || allowance < 0 || allowance > 5) return OUTSIDE;
        for (int share : new int[] {s0, s1, s2}) if (share < 10 || share > 300) return OUTSIDE;
        if (texts.size() == 6) return FULL;
        texts.add(new Text(w, new int[] {s0, s1, s2}, allowance, new ArrayList<>()));
        return texts.size() - 1;
    }

    public int step(int t, int price, int ounces) {
        if (t < 0 || t >= texts.size()) return UNKNOWN;
        if (price < 0 || price > 1000 || ounces < 1 || ounces > 1000) return OUTSIDE;
        List<int[]> steps = texts.get(t).steps();
        if (steps.size() == 8) return FULL;
        steps.add(new int[] {price, ounces});
        return steps.size();
    }

    public int inForce(int w) {
        if (w < 0 || w > 199) return UNKNOWN;
        for (int from = w; from >= 0; from--) {
            for (int t = texts.size() - 1; t >= 0; t--) if (texts.get(t).week() == from) return t;
        }
        return NONE;
    }

    public int due(int kind, int w) {
        if (w < 0 || w > week) return UNKNOWN;
        if (kind < 0 || kind > 2) return OUTSIDE;
        int t = inForce(w);
        if (t == NONE) return 0;
        Text text = texts.get(t);
        for (int from = price(w - 1); from >= 0; from--) {
            for (int i = text.steps().size() - 1; i >= 0; i--) {
                int[] step = text.steps().get(i);
                if (step[0] == from) return step[1] * text.shares()[kind] / 100;
            }
        }
        return 0;
    }

    private int left(int r) {
        int left = 0;
        for (int[] g : ground) if (g[0] == r) left = ((Lot) book.get(r)).ounces() - g[1];
        for (Object o : book) {
            if (o instanceof Batch b) for (Gift g : b.gifts()) if (g.lot() == r) left -= g.ounces();
        }
        return left;
    }

    private int flour(int b) {
        int flour = 0;
        for (int r = 0; r < book.size(); r++) {
            if (book.get(r) instanceof Lot lot && lot.baker() == b) flour += left(r);
        }
        return flour;
    }

    public int bake(int b, int kind, int n, int weight) {
        if (noBaker(b)) return UNKNOWN;
        if (kind < 0 || kind > 2 || n < 1 || n > 500 || weight < 1 || weight > 2000) return OUTSIDE;
        if (about(b, 6) > week) return STATE;
        if (book.size() == 200) return FULL;
        if (flour(b) < n * weight) return NO;
        List<Gift> gifts = new ArrayList<>();
        int wanted = n * weight;
        for (int[] g : ground) {
            int gives = ((Lot) book.get(g[0])).baker() == b ? Math.min(wanted, left(g[0])) : 0;
            if (gives > 0) gifts.add(new Gift(g[0], gives));
            wanted -= gives;
        }
        book.add(new Batch(week, hour, b, kind, n, weight, gifts));
        return book.size() - 1;
    }

    public int search() {
        if (bakers == 0) return STATE;
        if (book.size() == 200) return FULL;
        int b = turn();
        row.remove(0);
        int[] told = {NONE, 0, 0, 0, 0, 0};
        int barred = 0;
        int latest = about(b, 7);
        if (latest != NONE) {
            Batch batch = (Batch) book.get(latest);
            int age = (week - batch.week()) * 168 + hour - batch.hour();
            int t = inForce(batch.week());
            int allowance = t == NONE ? 0 : texts.get(t).allowance();
            long weighs = (long) batch.weight() * (1000 - dry * age) / 1000;
            long asked = (long) due(batch.kind(), batch.week()) * (1000 - allowance * age) / 1000;
            told = new int[] {latest, age, (int) Math.max(0, weighs), (int) Math.max(0, asked), 0, 0};
            if (told[2] < told[3]) {
                int ahead = about(b, 4);
                told[4] = 1;
                told[5] = ahead >= 3 ? 4 * fine : (ahead + 1) * fine;
                barred = ahead >= 3 ? week + 2 : 0;
            }
        }
        book.add(new Found(week, hour, b, told, barred));
        return book.size() - 1;
    }

    public int turn() {
        if (bakers == 0) return STATE;
        if (row.isEmpty()) {
            for (int i = 0; i < bakers; i++) row.add(i);
            for (int k = bakers - 1; k >= 1; k--) {
                s = (s * 1103515245L + 12345L) % 2147483648L;
                int other = (int) (s / 65536 % (k + 1));
                row.set(other, row.set(k, row.get(other)));
            }
        }
        return row.get(0);
    }

    public int rules(int d, int f) {
        if (d < 0 || d > 5 || f < 0 || f > 1000) return OUTSIDE;
        dry = d;
        fine = f;
        return 1;
    }

    public int record(int r, int what) {
        if (noRecord(r)) return UNKNOWN;
        if (what < 0 || what > 3) return OUTSIDE;
        Object o = book.get(r);
        if (o instanceof Lot l) return new int[] {1, l.week(), l.hour(), l.baker()}[what];
        if (o instanceof Batch b) return new int[] {2, b.week(), b.hour(), b.baker()}[what];
        Found f = (Found) o;
        return new int[] {3, f.week(), f.hour(), f.baker()}[what];
    }

    public int lot(int r, int what) {
        if (noRecord(r)) return UNKNOWN;
        if (what < 0 || what > 3) return OUTSIDE;
        if (!(book.get(r) instanceof Lot lot)) return NO;
        int isGround = 0;
        for (int[] g : ground) if (g[0] == r) isGround = 1;
        return new int[] {lot.ounces(), lot.price(), isGround, left(r)}[what];
    }

    public int batch(int r, int what) {
        if (noRecord(r)) return UNKNOWN;
        if (what < 0 || what >= 4 && what <= 9) return OUTSIDE;
        if (!(book.get(r) instanceof Batch b)) return NO;
        if (what < 4) return new int[] {b.kind(), b.n(), b.weight(), b.gifts().size()}[what];
        int i = (what - 10) / 2;
        if (i >= b.gifts().size()) return NONE;
        Gift gift = b.gifts().get(i);
        return what % 2 == 0 ? gift.lot() : gift.ounces();
    }

    public int found(int r, int what) {
        if (noRecord(r)) return UNKNOWN;
        if (what < 0 || what > 5) return OUTSIDE;
        return book.get(r) instanceof Found f ? f.told()[what] : NO;
    }

    public int about(int b, int what) {
        if (noBaker(b)) return UNKNOWN;
        if (what < 0 || what > 7) return OUTSIDE;
        int[] told = {flour(b), 0, 0, 0, 0, 0, 0, NONE};
        for (int r = 0; r < book.size(); r++) {
            Object o = book.get(r);
            if (o instanceof Lot l && l.baker() == b) told[1]++;
            if (o instanceof Batch t && t.baker() == b) {
                told[2]++;
                told[7] = r;
            }
            if (o instanceof Found f && f.baker() == b) {
                told[3]++;
                told[4] += f.told()[4];
                told[5] += f.told()[5];
                told[6] = Math.max(told[6], f.barredTill());
            }
        }
        return told[what];
    }

    public int store(int ounces) {
        if (ounces < 1 || ounces > 10000000) return OUTSIDE;
        if (stored + ounces > 100000000) return FULL;
        stored += ounces;
        return (int) stored;
    }

    public int mouths(int n, int e) {
        if (n < 0 || n > 10000 || e < 1 || e > 1000) return OUTSIDE;
        mouths = n;
        each = e;
        return 1;
    }

    public int ration(int r) {
        if (r < 1 || r > 100) return OUTSIDE;
        int was = (int) ration;
        ration = r;
        return was;
    }

    public int harvest(int w, int ounces) {
        if (w < 0 || w > 199 || ounces < 1 || ounces > 10000000) return OUTSIDE;
        if (harvests.size() == 10) return FULL;
        if (w <= week) return NO;
        harvests.add(new int[] {w, ounces});
        return harvests.size();
    }

    public int foretell(int r) {
        if (r < 1 || r > 100) return OUTSIDE;
        long left = stored;
        for (int w = week; w <= 199; w++) {
            for (int[] h : harvests) if (h[0] == w) left = Math.min(100000000, left + h[1]);
            long need = mouths * each * r / 100;
            if (left < need) return w;
            left -= need;
        }
        return NONE;
    }

    public int order(int w) {
        if (w < week || w > 199) return OUTSIDE;
        for (int r = 100; r >= 1; r--) {
            int hungry = foretell(r);
            if (hungry == NONE || hungry > w) return r;
        }
        return NONE;
    }

    public int told(int what) {
        if (what < 0 || what > 9) return OUTSIDE;
        int kept = 0;
        for (int[] g : ground) kept += g[1];
        return new int[] {week, hour, bakers, texts.size(), book.size(), kept, (int) stored, hunger,
            (int) ration, harvests.size()}[what];
    }
}

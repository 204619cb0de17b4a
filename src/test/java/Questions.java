import java.util.ArrayList;
import java.util.List;

/** All that can be asked of an object, in rows short enough for its 512 calls: are two of them alike? */
final class Questions {
    interface Question {
        int of(BreadLaw x, int i);
    }

    record Row(String name, int from, int to, Question question) {
    }

    static final List<Row> ASKING = asking();
    static final List<Row> ROWS = all();

    private Questions() {
    }

    private static List<Row> asking() {
        List<Row> rows = new ArrayList<>();
        addPlain(rows);
        addBook(rows);
        return rows;
    }

    private static List<Row> all() {
        List<Row> rows = new ArrayList<>(ASKING);
        addChanging(rows);
        return rows;
    }

    private static void addPlain(List<Row> rows) {
        rows.add(new Row("told", 0, 9, (x, i) -> x.told(i)));
        rows.add(new Row("about", 0, 63, (x, i) -> x.about(i / 8, i % 8)));
        rows.add(new Row("price", -1, 199, (x, i) -> x.price(i)));
        rows.add(new Row("inForce", 0, 199, (x, i) -> x.inForce(i)));
        for (int kind = 0; kind < 3; kind++) {
            int k = kind;
            rows.add(new Row("due of kind " + k, 0, 199, (x, i) -> x.due(k, i)));
        }
        rows.add(new Row("foretell", 1, 100, (x, i) -> x.foretell(i)));
        rows.add(new Row("order", 0, 199, (x, i) -> x.order(i)));
    }

    private static void addBook(List<Row> rows) {
        for (int what = 0; what < 6; what++) {
            int w = what;
            if (w < 4) {
                rows.add(new Row("record " + w, 0, 199, (x, i) -> x.record(i, w)));
                rows.add(new Row("lot " + w, 0, 199, (x, i) -> x.lot(i, w)));
                rows.add(new Row("batch " + w, 0, 199, (x, i) -> x.batch(i, w)));
            }
            rows.add(new Row("batch " + (10 + w), 0, 199, (x, i) -> x.batch(i, 10 + w)));
            rows.add(new Row("found " + w, 0, 199, (x, i) -> x.found(i, w)));
        }
    }

    /** What can be seen only from what comes of it later. */
    private static void addChanging(List<Row> rows) {
        rows.add(new Row("dish", 0, 0, (x, i) -> x.dish(2)));
        rows.add(new Row("ration", 0, 0, (x, i) -> x.ration(1)));
        rows.add(new Row("bakers that come", 0, 8, (x, i) -> x.baker()));
        rows.add(new Row("turns", 0, 77, (x, i) -> searching(x, i)));
        rows.add(new Row("turns, bakers came", 0, 77, (x, i) -> i < 2 ? x.baker() : searching(x, i)));
        rows.add(new Row("weeks", 0, 79, (x, i) -> i % 4 == 0 ? x.go(168) : x.told(5 + i % 4)));
        rows.add(new Row("grinding", 0, 200, (x, i) -> x.grind(i)));
        rows.add(new Row("baking", 0, 39, (x, i) -> baking(x, i)));
        rows.add(new Row("buying", 0, 23, (x, i) -> i % 3 < 2 ? x.buy(i / 3, 7 + i, i + 1) : x.price(x.told(0))));
        rows.add(new Row("texts", 0, 6, (x, i) -> x.text(i, 100, 100, 100, 0)));
        rows.add(new Row("steps", 0, 53, (x, i) -> x.step(i / 9, 0, 1)));
        rows.add(new Row("dues of later weeks", 0, 59, (x, i) -> laterDue(x, i)));
        rows.add(new Row("store", 0, 10, (x, i) -> x.store(10000000)));
        rows.add(new Row("harvests", 0, 10, (x, i) -> x.harvest(199, 1)));
    }

    private static int searching(BreadLaw x, int i) {
        int last = x.told(4) - 1;
        switch (i % 6) {
            case 0: return x.turn();
            case 1: return x.search();
            case 2: return x.record(last, 3);
            case 3: return x.found(last, 2);
            case 4: return x.found(last, 3);
            default: return x.found(last, 5);
        }
    }

    private static int baking(BreadLaw x, int i) {
        int what = i % 5;
        return what == 0 ? x.bake(i / 5, 0, 1, 50) : x.batch(x.told(4) - 1, 9 + what);
    }

    private static int laterDue(BreadLaw x, int i) {
        switch (i % 3) {
            case 0: return x.buy(0, 100000, 1 + 16 * i);
            case 1: return x.go(168);
            default: return x.due(0, x.told(0));
        }
    }

    /** Asks two objects the questions of a row, and stops at the first answer that is not the same. */
    static void areAlike(String where, Row row, BreadLaw one, BreadLaw other) {
        for (int i = row.from(); i <= row.to(); i++) {
            int got = row.question().of(one, i);
            int want = row.question().of(other, i);
            if (got != want) {
                Due.is(where + ", then " + row.name() + " " + i, got, want);
                return;
            }
        }
        Due.is(where + ", then " + row.name(), 0, 0);
    }
}

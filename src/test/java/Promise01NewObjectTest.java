/** Promise 1: a new object. */
public final class Promise01NewObjectTest {
    public static void main(String[] args) {
        Due due = new Due("Promise 1: A new object");
        due.sentence("Nothing is there.", Promise01NewObjectTest::nothingIsThere);
        due.end();
    }

    private static void nothingIsThere(Due due) {
        StockDesk desk = new StockDesk();
        for (int what = 0; what <= 3; what++) {
            due.same("count " + what, desk.count(what), 0);
            due.same("told " + what, desk.told(what), what < 2 ? 0 : -1);
        }
        due.same("sums", desk.sums(), 1);
        for (int part = 0; part <= 5; part++) {
            due.same("worth of " + part, desk.worth(part), 0);
        }
        for (int kind = 0; kind <= 4; kind++) {
            due.same("made of " + kind, desk.numbers(kind, 0), 0);
            due.same("there of " + kind, desk.numbers(kind, 1), 0);
        }
        noNumberIsThere(due);
        due.refused("back", Due.STATE, Desks::empty, d -> d.back());
        objectsAreApart(due);
    }

    private static void noNumberIsThere(Due due) {
        StockDesk desk = new StockDesk();
        for (int number = 0; number <= 10; number++) {
            int n = number;
            for (int kind = 0; kind <= 4; kind++) {
                int k = kind;
                due.thrown("uses of " + k + " " + n, Due.MISSING, () -> desk.uses(k, n));
                due.thrown("drop of " + k + " " + n, Due.MISSING, () -> desk.drop(k, n));
            }
            for (int part = 0; part <= 5; part++) {
                int p = part;
                due.thrown("call of " + p + " " + n, Due.MISSING, () -> desk.call(p, n, 0));
                due.thrown("again of " + p + " " + n, Due.MISSING, () -> desk.again(p, n, 0));
            }
        }
        due.same("acts", desk.count(0), 0);
    }

    private static void objectsAreApart(Due due) {
        StockDesk fresh = new StockDesk();
        Desks.busy().again(0, 2, 1);
        due.same("an object beside a busy one", Look.whole(fresh), Look.whole(new StockDesk()));
    }
}

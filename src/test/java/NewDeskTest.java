/** Promise 1: nothing is there on a new object. */
public final class NewDeskTest {
    public static void main(String[] args) {
        Due due = new Due();
        StockDesk desk = new StockDesk();
        for (int what = 0; what < 4; what++) {
            due.same("count " + what, desk.count(what), 0);
        }
        due.same("told 0", desk.told(0), 0);
        due.same("told 1", desk.told(1), 0);
        due.same("told 2", desk.told(2), -1);
        due.same("told 3", desk.told(3), -1);
        due.same("sums", desk.sums(), 1);
        for (int part = 0; part < 6; part++) {
            due.same("worth of part " + part, desk.worth(part), 0);
        }
        for (int kind = 0; kind < 5; kind++) {
            due.same("made of kind " + kind, desk.numbers(kind, 0), 0);
            due.same("there of kind " + kind, desk.numbers(kind, 1), 0);
            for (int number = 0; number <= 10; number++) {
                int k = kind;
                int n = number;
                due.refused("uses of " + k + " " + n, Due.MISSING, () -> desk.uses(k, n));
            }
        }
        due.refused("back", Due.STATE, () -> desk.back());
        firstKindsOfParts(due);
        objectsAreApart(due);
        due.end();
    }

    private static void firstKindsOfParts(Due due) {
        for (int part = 0; part < 6; part++) {
            for (int kind = 0; kind < 5; kind++) {
                StockDesk desk = new StockDesk();
                desk.make(kind);
                int p = part;
                String want = part % 5 == kind ? "1" : Due.MISSING.getName();
                due.same("part " + part + " on kind " + kind, Due.outcome(() -> desk.call(p, 1, 5)), want);
            }
        }
    }

    private static void objectsAreApart(Due due) {
        StockDesk one = new StockDesk();
        StockDesk two = new StockDesk();
        String before = Due.wholeOf(two);
        one.make(0);
        one.answers(0, 3, 4);
        one.call(0, 1, 5);
        one.collect(9);
        due.same("the other object", Due.wholeOf(two), before);
    }
}

/** Promise 16: count. */
public final class CountTest {
    public static void main(String[] args) {
        Due due = new Due();
        StockDesk desk = new StockDesk();
        counts(due, desk, 0, 0, 0, 0);
        desk.make(0);
        desk.make(4);
        counts(due, desk, 2, 2, 0, 0);
        desk.collect(0);
        counts(due, desk, 3, 2, 1, 0);
        desk.call(0, 1, 0);
        desk.call(4, 1, 0);
        counts(due, desk, 5, 2, 1, 2);
        desk.fails(0, 2);
        due.refused("a failing call", Due.STATE, () -> desk.call(0, 1, 0));
        counts(due, desk, 7, 2, 1, 2);
        desk.drop(4, 1);
        counts(due, desk, 8, 1, 1, 2);
        desk.serves(0, 1);
        desk.answers(0, 1, 1);
        counts(due, desk, 10, 1, 1, 2);
        due.refused("a refused call", Due.MISSING, () -> desk.call(4, 1, 0));
        desk.again(5, 1, 0);
        counts(due, desk, 10, 1, 1, 2);
        for (int i = 0; i < 6; i++) {
            desk.back();
        }
        counts(due, desk, 4, 2, 1, 1);
        for (int what : new int[] {-1, 4, Integer.MIN_VALUE, Integer.MAX_VALUE}) {
            due.same("count " + what, desk.count(what), -1);
        }
        due.end();
    }

    private static void counts(Due due, StockDesk desk, int acts, int there, int bytes, int answered) {
        due.same("acts", desk.count(0), acts);
        due.same("things there", desk.count(1), there);
        due.same("bytes", desk.count(2), bytes);
        due.same("calls answered", desk.count(3), answered);
    }
}

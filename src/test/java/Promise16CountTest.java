/** Promise 16: count. */
public final class Promise16CountTest {
    public static void main(String[] args) {
        Due due = new Due("Promise 16: count");
        due.sentence("0 acts, 1 things there, 2 bytes collected, 3 calls that were answered", Promise16CountTest::counts);
        due.sentence("-1 for another what.", Promise16CountTest::anotherWhat);
        due.end();
    }

    private static void counts(Due due) {
        StockDesk desk = new StockDesk();
        countsAre(due, desk, 0, 0, 0, 0);
        desk.make(0);
        desk.make(4);
        countsAre(due, desk, 2, 2, 0, 0);
        desk.collect(0);
        countsAre(due, desk, 3, 2, 1, 0);
        desk.call(0, 1, 0);
        desk.call(4, 1, 0);
        countsAre(due, desk, 5, 2, 1, 2);
        desk.fails(0, 2);
        due.thrown("a failing call", Due.STATE, () -> desk.call(0, 1, 0));
        countsAre(due, desk, 7, 2, 1, 2);
        desk.drop(4, 1);
        countsAre(due, desk, 8, 1, 1, 2);
        desk.serves(0, 1);
        desk.answers(0, 1, 1);
        countsAre(due, desk, 10, 1, 1, 2);
        due.thrown("a refused call", Due.MISSING, () -> desk.call(4, 1, 0));
        due.same("what a call would answer", desk.again(5, 1, 0), 1);
        countsAre(due, desk, 10, 1, 1, 2);
        for (int act = 0; act < 6; act++) {
            desk.back();
        }
        countsAre(due, desk, 4, 2, 1, 1);
        mostOfEach(due);
    }

    private static void mostOfEach(Due due) {
        StockDesk bytes = new StockDesk();
        StockDesk calls = Desks.thingsOf(0, 1);
        StockDesk things = new StockDesk();
        for (int act = 0; act < 60; act++) {
            bytes.collect(255);
            Due.outcome(() -> calls.call(5, 1, 1));
            int kind = act % 5;
            Due.outcome(() -> things.make(kind));
        }
        countsAre(due, bytes, 60, 0, 60, 0);
        countsAre(due, calls, 60, 1, 0, 59);
        countsAre(due, things, 45, 45, 0, 0);
    }

    private static void countsAre(Due due, StockDesk desk, int acts, int there, int bytes, int answered) {
        due.same("acts", desk.count(0), acts);
        due.same("things there", desk.count(1), there);
        due.same("bytes", desk.count(2), bytes);
        due.same("calls answered", desk.count(3), answered);
    }

    private static void anotherWhat(Due due) {
        for (int what : new int[] {-1, 4, Integer.MIN_VALUE, Integer.MAX_VALUE}) {
            due.same("on an empty desk " + what, new StockDesk().count(what), -1);
            StockDesk desk = Desks.full();
            due.same("on a full desk " + what, desk.count(what), -1);
            due.same("the desk behind it", Look.whole(desk), Look.whole(Desks.full()));
        }
    }
}

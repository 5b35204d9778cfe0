/** Promise 15: numbers. */
public final class Promise15NumbersTest {
    public static void main(String[] args) {
        Due due = new Due("Promise 15: numbers");
        due.sentence("Of a kind 0 things made, 1 things there.", Promise15NumbersTest::madeAndThere);
        due.sentence("IllegalArgumentException.", Promise15NumbersTest::refusals);
        due.end();
    }

    private static void madeAndThere(Due due) {
        for (int kind = 0; kind <= 4; kind++) {
            StockDesk desk = new StockDesk();
            numbersAre(due, desk, kind, 0, 0);
            for (int number = 1; number <= 9; number++) {
                desk.make(kind);
                numbersAre(due, desk, kind, number, number);
            }
            numbersAre(due, desk, (kind + 1) % 5, 0, 0);
            for (int number = 9; number >= 1; number--) {
                desk.drop(kind, number);
                numbersAre(due, desk, kind, 9, number - 1);
            }
            int k = kind;
            due.thrown("a refused make", Due.ROOM, () -> desk.make(k));
            numbersAre(due, desk, kind, 9, 0);
            desk.back();
            numbersAre(due, desk, kind, 9, 1);
        }
        StockDesk one = Desks.thingsOf(2, 1);
        one.back();
        numbersAre(due, one, 2, 0, 0);
    }

    private static void numbersAre(Due due, StockDesk desk, int kind, int made, int there) {
        due.same("made of " + kind, desk.numbers(kind, 0), made);
        due.same("there of " + kind, desk.numbers(kind, 1), there);
    }

    private static void refusals(Due due) {
        due.refusedOutside(0, 4, "numbers 0 of a kind", Desks::busy, (desk, kind) -> desk.numbers(kind, 0));
        due.refusedOutside(0, 4, "numbers 1 of a kind", Desks::busy, (desk, kind) -> desk.numbers(kind, 1));
        for (int kind = 0; kind <= 4; kind++) {
            int k = kind;
            due.refusedOutside(0, 1, "numbers of a what", Desks::busy, (desk, what) -> desk.numbers(k, what));
        }
        due.refused("numbers of both", Due.RANGE, Desks::full, desk -> desk.numbers(5, 2));
    }
}

/** Promise 12: told. */
public final class Promise12ToldTest {
    public static void main(String[] args) {
        Due due = new Due("Promise 12: told");
        due.sentence("Of the failures 0 how many, 1 the way of the latest (0 without), 2 its part (-1), 3 its number (-1).",
            Promise12ToldTest::failures);
        due.sentence("IllegalArgumentException.", Promise12ToldTest::refusals);
        due.end();
    }

    private static void failures(Due due) {
        StockDesk desk = Desks.nineOf(0);
        due.tells("without", desk, 0, 0, -1, -1);
        desk.fails(5, 3);
        due.tells("with a way that is not called", desk, 0, 0, -1, -1);
        Due.outcome(() -> desk.again(5, 9, 0));
        due.tells("with an again that would fail", desk, 0, 0, -1, -1);
        Due.outcome(() -> desk.call(5, 10, 0));
        due.tells("with a refused call of a failing part", desk, 0, 0, -1, -1);
        Due.outcome(() -> desk.call(5, 9, 0));
        due.tells("with the greatest of each", desk, 1, 3, 5, 9);
        desk.fails(5, 2);
        desk.drop(0, 9);
        due.tells("with another way told, and its thing dropped", desk, 1, 3, 5, 9);
        desk.back();
        desk.back();
        desk.fails(0, 1);
        Due.outcome(() -> desk.call(0, 1, 0));
        due.tells("with the least of each", desk, 2, 1, 0, 1);
        Due.outcome(() -> desk.call(0, 1, 0));
        due.tells("with the same once more", desk, 3, 1, 0, 1);
        desk.back();
        due.tells("with one taken back", desk, 2, 1, 0, 1);
        desk.back();
        due.tells("with two taken back", desk, 1, 3, 5, 9);
        desk.back();
        desk.back();
        due.tells("with all taken back", desk, 0, 0, -1, -1);
    }

    private static void refusals(Due due) {
        due.refusedOutside(0, 3, "told", Desks::empty, (desk, what) -> desk.told(what));
        due.refusedOutside(0, 3, "told", Desks::busy, (desk, what) -> desk.told(what));
        due.refusedOutside(0, 3, "told", Desks::full, (desk, what) -> desk.told(what));
    }
}

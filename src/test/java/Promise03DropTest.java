/** Promise 3: drop. */
public final class Promise03DropTest {
    public static void main(String[] args) {
        Due due = new Due("Promise 3: drop");
        due.sentence("A thing is dropped: its uses.", Promise03DropTest::itsUses);
        due.sentence("(Kind, then whether it is there.)", Promise03DropTest::kindThenWhetherThere);
        due.sentence("throws NoSuchElementException, IllegalArgumentException, UnsupportedOperationException",
            Promise03DropTest::refusals);
        due.end();
    }

    private static void itsUses(Due due) {
        StockDesk desk = Desks.nineOf(4);
        for (int call = 1; call <= 40; call++) {
            desk.call(4, 9, 2);
        }
        desk.call(4, 1, 0);
        due.same("the last, often used", desk.drop(4, 9), 40);
        due.same("the first, used once", desk.drop(4, 1), 1);
        due.same("one that was never used", desk.drop(4, 5), 0);
        due.same("things there", desk.numbers(4, 1), 6);
        due.same("things made", desk.numbers(4, 0), 9);
        due.same("acts", desk.count(0), 53);
        due.thrown("once more", Due.MISSING, () -> desk.drop(4, 9));
        due.same("the part keeps its worth", desk.worth(4), 80);
        for (int number : new int[] {2, 3, 4, 6, 7, 8}) {
            due.same("until nothing is left", desk.drop(4, number), 0);
        }
        due.same("nothing is left", desk.numbers(4, 1), 0);
        due.same("acts", desk.count(0), 59);
        due.same("as the sixtieth act", Desks.busyTo(59).drop(0, 2), 1);
    }

    private static void kindThenWhetherThere(Due due) {
        for (int number : new int[] {-1, 0, 1, 10, Integer.MIN_VALUE, Integer.MAX_VALUE}) {
            due.refusedOutside(0, 4, "drop of no number " + number, Desks::busy, (desk, kind) -> desk.drop(kind, number));
        }
        due.refused("whether it is there, then sixty", Due.MISSING, Desks::full, desk -> desk.drop(0, 1));
        due.refusedOutside(0, 4, "kind, then sixty", Desks::full, (desk, kind) -> desk.drop(kind, 1));
    }

    private static void refusals(Due due) {
        for (int number : new int[] {-1, 0, 2, 10, Integer.MIN_VALUE, Integer.MAX_VALUE}) {
            due.refused("drop of " + number, Due.MISSING, () -> Desks.thingsOf(0, 1), desk -> desk.drop(0, number));
        }
        due.refused("another kind's", Due.MISSING, () -> Desks.nineOf(0), desk -> desk.drop(1, 1));
        due.refused("one that was dropped", Due.MISSING, Desks::busy, desk -> desk.drop(0, 1));
        due.refusedOutside(0, 4, "drop", Desks::busy, (desk, kind) -> desk.drop(kind, 2));
        due.refused("the sixty-first act", Due.ROOM, Desks::full, desk -> desk.drop(0, 2));
    }
}

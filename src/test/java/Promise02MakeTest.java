/** Promise 2: make. */
public final class Promise02MakeTest {
    public static void main(String[] args) {
        Due due = new Due("Promise 2: make");
        due.sentence("A thing of a kind: its number.", Promise02MakeTest::itsNumber);
        due.sentence("throws IllegalArgumentException, UnsupportedOperationException", Promise02MakeTest::refusals);
        due.end();
    }

    private static void itsNumber(Due due) {
        for (int kind = 0; kind <= 4; kind++) {
            StockDesk desk = new StockDesk();
            for (int number = 1; number <= 9; number++) {
                due.same("make " + kind, desk.make(kind), number);
                due.same("its uses", desk.uses(kind, number), 0);
                due.same("things made", desk.numbers(kind, 0), number);
                due.same("acts", desk.count(0), number);
            }
            due.same("things of other kinds", desk.count(1) - desk.numbers(kind, 1), 0);
        }
        StockDesk used = Desks.busy();
        due.same("behind a dropped and a used one", used.make(0), 3);
        due.same("it has no uses", used.uses(0, 3), 0);
        due.same("the used one keeps its own", used.uses(0, 2), 1);
        due.same("as the sixtieth act", Desks.busyTo(59).make(0), 3);
    }

    private static StockDesk nineWithoutTheFirst() {
        StockDesk desk = Desks.nineOf(0);
        desk.drop(0, 1);
        return desk;
    }

    private static void refusals(Due due) {
        due.refusedOutside(0, 4, "make", Desks::empty, (desk, kind) -> desk.make(kind));
        due.refused("the tenth", Due.ROOM, () -> Desks.nineOf(0), desk -> desk.make(0));
        due.refused("the tenth with one dropped", Due.ROOM, Promise02MakeTest::nineWithoutTheFirst, desk -> desk.make(0));
        due.refused("the sixty-first act", Due.ROOM, Desks::full, desk -> desk.make(0));
        due.refusedOutside(0, 4, "make without room", Desks::full, (desk, kind) -> desk.make(kind));
    }
}

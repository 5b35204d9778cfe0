/** Promise 6: fails. */
public final class Promise06FailsTest {
    public static void main(String[] args) {
        Due due = new Due("Promise 6: fails");
        due.sentence("How a part fails (0 .. 3): how it did before.", Promise06FailsTest::howBefore);
        due.sentence("throws IllegalArgumentException, UnsupportedOperationException", Promise06FailsTest::refusals);
        due.end();
    }

    private static void howBefore(Due due) {
        for (int part = 0; part <= 5; part++) {
            StockDesk desk = new StockDesk();
            int before = 0;
            for (int way : new int[] {0, 1, 1, 2, 2, 3, 3, 0, 3, 2, 1, 0, 2, 0}) {
                due.same("fails " + part + " " + way, desk.fails(part, way), before);
                before = way;
            }
            due.same("acts", desk.count(0), 14);
            due.same("nothing is told by it", desk.told(0), 0);
            desk.fails(part, 3);
            due.same("another part's way", desk.fails((part + 1) % 6, 1), 0);
            due.same("this part's way", desk.fails(part, 0), 3);
        }
        due.same("as the sixtieth act", Desks.busyTo(59).fails(5, 3), 2);
    }

    private static void refusals(Due due) {
        due.refusedOutside(0, 5, "fails of a part", Desks::busy, (desk, part) -> desk.fails(part, 1));
        due.refusedOutside(0, 3, "fails of a way", Desks::busy, (desk, way) -> desk.fails(0, way));
        due.refused("the sixty-first act", Due.ROOM, Desks::full, desk -> desk.fails(5, 1));
        due.refused("the sixty-first act, without a change", Due.ROOM, Desks::full, desk -> desk.fails(5, 2));
        due.refused("a part, then sixty", Due.RANGE, Desks::full, desk -> desk.fails(6, 0));
        due.refused("a way, then sixty", Due.RANGE, Desks::full, desk -> desk.fails(0, 4));
    }
}

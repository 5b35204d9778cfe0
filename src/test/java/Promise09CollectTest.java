/** Promise 9: collect. */
public final class Promise09CollectTest {
    public static void main(String[] args) {
        Due due = new Due("Promise 9: collect");
        due.sentence("A byte is collected: how many are.", Promise09CollectTest::howMany);
        due.sentence("throws IllegalArgumentException, UnsupportedOperationException", Promise09CollectTest::refusals);
        due.end();
    }

    private static void howMany(Due due) {
        StockDesk desk = new StockDesk();
        for (int bytes = 1; bytes <= 60; bytes++) {
            due.same("collect", desk.collect(bytes % 2 == 0 ? 0 : 255), bytes);
            due.same("bytes", desk.count(2), bytes);
            due.same("acts", desk.count(0), bytes);
        }
        for (int b = 0; b <= 255; b++) {
            desk = new StockDesk();
            due.same("byte " + b, desk.collect(b), 1);
            due.same("its sums", desk.sums(), (1 + b) * 65537L);
        }
        due.same("among other acts", Desks.busy().collect(1), 2);
        due.same("as the sixtieth act", Desks.busyTo(59).collect(1), 49);
    }

    private static void refusals(Due due) {
        due.refusedOutside(0, 255, "collect", Desks::busy, (desk, b) -> desk.collect(b));
        due.refused("the sixty-first act", Due.ROOM, Desks::full, desk -> desk.collect(0));
        due.refusedOutside(0, 255, "a byte, then sixty", Desks::full, (desk, b) -> desk.collect(b));
    }
}

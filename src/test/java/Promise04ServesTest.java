/** Promise 4: serves. */
public final class Promise04ServesTest {
    public static void main(String[] args) {
        Due due = new Due("Promise 4: serves");
        due.sentence("A part serves another kind.", Promise04ServesTest::anotherKind);
        due.sentence("throws IllegalArgumentException, UnsupportedOperationException", Promise04ServesTest::refusals);
        due.end();
    }

    private static void anotherKind(Due due) {
        for (int part = 0; part <= 5; part++) {
            for (int kind = 0; kind <= 4; kind++) {
                servesOne(due, part, kind);
            }
        }
        StockDesk desk = Desks.busyTo(59);
        desk.serves(0, 1);
        due.same("as the sixtieth act", desk.again(0, 1, 0), 57);
    }

    private static void servesOne(Due due, int part, int kind) {
        StockDesk desk = new StockDesk();
        desk.make(kind);
        desk.answers(part, 20, 2);
        desk.serves(part, kind);
        due.same("a call of " + part + " on " + kind, desk.call(part, 1, 3), 27);
        due.same("uses of that kind", desk.uses(kind, 1), 1);
        desk.serves(part, kind);
        due.same("the same kind once more", desk.call(part, 1, 3), 30);
        desk.serves(part, (kind + 1) % 5);
        due.thrown("the kind before", Due.MISSING, () -> desk.call(part, 1, 3));
        due.same("the worth stays", desk.worth(part), 6);
        desk.make((kind + 1) % 5);
        due.same("base, factor and worth stay", desk.call(part, 1, 0), 27);
        due.same("acts", desk.count(0), 9);
        int other = (part + 1) % 6;
        due.same("another part's kind stays", Due.outcome(() -> desk.again(other, 1, 0)),
            other % 5 == kind || other % 5 == (kind + 1) % 5 ? "1" : Due.MISSING.getName());
    }

    private static void refusals(Due due) {
        due.refusedOutside(0, 5, "serves of a part", Desks::busy, (desk, part) -> desk.serves(part, 4));
        due.refusedOutside(0, 4, "serves of a kind", Desks::busy, (desk, kind) -> desk.serves(5, kind));
        due.refused("serves of both", Due.RANGE, Desks::busy, desk -> desk.serves(6, 5));
        due.refused("the sixty-first act", Due.ROOM, Desks::full, desk -> desk.serves(0, 1));
        due.refused("the sixty-first act, without a change", Due.ROOM, Desks::full, desk -> desk.serves(0, 0));
        due.refused("a part, then sixty", Due.RANGE, Desks::full, desk -> desk.serves(6, 0));
        due.refused("a kind, then sixty", Due.RANGE, Desks::full, desk -> desk.serves(0, 5));
    }
}

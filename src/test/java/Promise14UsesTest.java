/** Promise 14: uses. */
public final class Promise14UsesTest {
    public static void main(String[] args) {
        Due due = new Due("Promise 14: uses");
        due.sentence("The uses of a thing.", Promise14UsesTest::usesOfAThing);
        due.sentence("(Kind, then whether it is there.)", Promise14UsesTest::kindThenWhetherThere);
        due.sentence("throws NoSuchElementException, IllegalArgumentException", Promise14UsesTest::refusals);
        due.end();
    }

    private static void usesOfAThing(Due due) {
        for (int kind = 0; kind <= 4; kind++) {
            StockDesk desk = Desks.nineOf(kind);
            desk.call(kind, 1, 5);
            for (int call = 1; call <= 50; call++) {
                desk.call(kind, 9, 0);
            }
            due.same("the first", desk.uses(kind, 1), 1);
            due.same("one that was not called", desk.uses(kind, 5), 0);
            due.same("the last, as often as there was room", desk.uses(kind, 9), 50);
        }
        StockDesk desk = Desks.thingsOf(0, 2);
        desk.make(1);
        desk.make(1);
        desk.call(0, 2, 4);
        desk.call(5, 2, -4);
        desk.serves(1, 0);
        desk.call(1, 2, 1);
        due.same("by three parts", desk.uses(0, 2), 3);
        due.same("another number", desk.uses(0, 1), 0);
        due.same("another kind", desk.uses(1, 2), 0);
    }

    private static void kindThenWhetherThere(Due due) {
        for (int number : new int[] {-1, 0, 1, 10, Integer.MIN_VALUE, Integer.MAX_VALUE}) {
            due.refusedOutside(0, 4, "uses of no number " + number, Desks::busy, (desk, kind) -> desk.uses(kind, number));
        }
        due.refusedOutside(0, 4, "on a full desk", Desks::full, (desk, kind) -> desk.uses(kind, 2));
    }

    private static void refusals(Due due) {
        for (int number : new int[] {-1, 0, 2, 9, 10, Integer.MIN_VALUE, Integer.MAX_VALUE}) {
            due.refused("uses of " + number, Due.MISSING, () -> Desks.thingsOf(0, 1), desk -> desk.uses(0, number));
        }
        due.refused("the tenth of nine", Due.MISSING, () -> Desks.nineOf(0), desk -> desk.uses(0, 10));
        due.refused("the one before the first", Due.MISSING, () -> Desks.nineOf(0), desk -> desk.uses(1, 0));
        due.refused("one that was dropped", Due.MISSING, Desks::busy, desk -> desk.uses(0, 1));
        due.refused("on a full desk", Due.MISSING, Desks::full, desk -> desk.uses(0, 1));
        due.refusedOutside(0, 4, "uses", Desks::busy, (desk, kind) -> desk.uses(kind, 2));
    }
}

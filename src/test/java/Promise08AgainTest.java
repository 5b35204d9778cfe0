/** Promise 8: again. */
public final class Promise08AgainTest {
    public static void main(String[] args) {
        Due due = new Due("Promise 8: again");
        due.sentence("What this call would answer on a second house on which all acts were done in their order",
            Promise08AgainTest::wouldAnswer);
        due.sentence("(this house stays as it is; nothing is told here).", Promise08AgainTest::staysAsItIs);
        due.sentence("IllegalStateException: it would fail there.", Promise08AgainTest::wouldFail);
        due.sentence("(Part and a, then the number; sixty are not asked.)", Promise08AgainTest::theOrder);
        due.sentence("throws IllegalArgumentException, NoSuchElementException, IllegalStateException",
            Promise08AgainTest::refusals);
        due.end();
    }

    private static void wouldAnswer(Due due) {
        StockDesk desk = Desks.busy();
        due.same("again", desk.again(0, 2, 5), 68);
        due.same("again once more", desk.again(0, 2, 5), 68);
        due.same("the call itself", desk.call(0, 2, 5), 68);
        due.same("again behind the call", desk.again(0, 2, 5), 73);
        due.same("a part whose kind was told", desk.again(3, 1, 5), 1);
        due.same("a part with a worth below 0", desk.again(4, 1, 5), -7);
        desk.back();
        due.same("again with the call taken back", desk.again(0, 2, 5), 68);
        desk.fails(0, 2);
        Due.outcome(() -> desk.call(0, 2, 1000));
        desk.fails(0, 0);
        due.same("again behind a failure", desk.again(0, 2, 5), 68);
        desk.answers(0, -1000000, 1000000);
        due.same("beyond an int", desk.again(0, 2, 1000000), 999999000002L + 6);
        due.same("below an int", desk.again(0, 2, -1000000), -1000000999998L + 6);
        secondHouseIsNewEachTime(due);
    }

    /** What an earlier again saw on the second house must be gone when its act is taken back. */
    private static void secondHouseIsNewEachTime(Due due) {
        StockDesk desk = Desks.thingsOf(0, 1);
        desk.answers(0, 50, 2);
        due.same("with base and factor", desk.again(0, 1, 5), 61);
        desk.back();
        due.same("with them taken back", desk.again(0, 1, 5), 1);
        desk.serves(0, 3);
        due.thrown("with another kind", Due.MISSING, () -> desk.again(0, 1, 5));
        desk.back();
        due.same("with the kind taken back", desk.again(0, 1, 5), 1);
        desk.fails(0, 1);
        due.thrown("with a way", Due.STATE, () -> desk.again(0, 1, 5));
        desk.back();
        due.same("with the way taken back", desk.again(0, 1, 5), 1);
        desk.drop(0, 1);
        due.thrown("with the thing dropped", Due.MISSING, () -> desk.again(0, 1, 5));
        desk.back();
        due.same("with the drop taken back", desk.again(0, 1, 5), 1);
        desk.back();
        due.thrown("with the thing taken back", Due.MISSING, () -> desk.again(0, 1, 5));
    }

    private static void staysAsItIs(Due due) {
        StockDesk desk = Desks.busy();
        for (int i = 0; i < 10; i++) {
            desk.again(0, 2, 1000000);
            due.thrown("one that would fail", Due.STATE, () -> desk.again(5, 2, 5));
        }
        due.same("the desk behind twenty", Look.whole(desk), Look.whole(Desks.busy()));
        StockDesk calm = Desks.oneOfEach();
        calm.fails(1, 3);
        due.thrown("one that would fail", Due.STATE, () -> calm.again(1, 1, 0));
        due.tells("nothing is told here", calm, 0, 0, -1, -1);
    }

    private static void wouldFail(Due due) {
        for (int way = 1; way <= 3; way++) {
            StockDesk desk = Desks.oneOfEach();
            desk.fails(5, way);
            due.thrown("by way " + way, Due.STATE, () -> desk.again(5, 1, 0));
            due.same("another part of the kind", desk.again(0, 1, 0), 1);
            desk.fails(5, 0);
            due.same("by way 0", desk.again(5, 1, 0), 1);
        }
        due.refused("on a full desk", Due.STATE, Desks::full, desk -> desk.again(5, 2, 0));
    }

    private static void theOrder(Due due) {
        due.refusedOutside(0, 5, "part, then the number", Desks::busy, (desk, part) -> desk.again(part, 0, 0));
        due.refusedOutside(-1000000, 1000000, "a, then the number", Desks::busy, (desk, a) -> desk.again(0, 1, a));
        due.refusedOutside(-1000000, 1000000, "a, then failing", Desks::busy, (desk, a) -> desk.again(5, 2, a));
        due.refused("the number, then failing", Due.MISSING, Desks::busy, desk -> desk.again(5, 1, 0));
        StockDesk full = Desks.full();
        due.same("sixty are not asked", full.again(0, 2, 5), 68);
        due.same("and stay sixty", full.count(0), 60);
        due.refused("sixty are not asked: the number", Due.MISSING, Desks::full, desk -> desk.again(0, 1, 0));
        due.refused("sixty are not asked: a", Due.RANGE, Desks::full, desk -> desk.again(0, 2, -1000001));
        due.refused("sixty are not asked: part", Due.RANGE, Desks::full, desk -> desk.again(6, 2, 0));
    }

    private static void refusals(Due due) {
        due.refusedOutside(0, 5, "again of a part", Desks::busy, (desk, part) -> desk.again(part, 2, 0));
        due.refusedOutside(-1000000, 1000000, "again with a", Desks::busy, (desk, a) -> desk.again(0, 2, a));
        for (int number : new int[] {-1, 0, 2, 9, 10, Integer.MIN_VALUE, Integer.MAX_VALUE}) {
            due.refused("again of " + number, Due.MISSING, () -> Desks.thingsOf(0, 1), desk -> desk.again(0, number, 0));
        }
        due.refused("on an empty desk", Due.MISSING, Desks::empty, desk -> desk.again(0, 1, 0));
        due.refused("one that was dropped", Due.MISSING, Desks::busy, desk -> desk.again(0, 1, 0));
    }
}

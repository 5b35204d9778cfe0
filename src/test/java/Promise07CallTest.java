/** Promise 7: call. */
public final class Promise07CallTest {
    public static void main(String[] args) {
        Due due = new Due("Promise 7: call");
        due.sentence("A call: the part's answer.", Promise07CallTest::theAnswer);
        due.sentence("NoSuchElementException: no such thing of its kind is there", Promise07CallTest::noSuchThing);
        due.sentence("IllegalStateException: the part failed (it is told, and an act)", Promise07CallTest::thePartFailed);
        due.sentence("UnsupportedOperationException: there are sixty acts.", Promise07CallTest::sixtyActs);
        due.sentence("(part and a, then the number, then sixty.)", Promise07CallTest::theOrder);
        due.end();
    }

    private static void theAnswer(Due due) {
        StockDesk desk = Desks.nineOf(1);
        desk.answers(1, -40, 5);
        due.same("the first thing", desk.call(1, 1, 8), -40 + 40 + 1);
        due.same("the last thing", desk.call(1, 9, -8), -40 - 40 + 9 + 8);
        due.same("an argument of 0", desk.call(1, 5, 0), -40 + 5);
        due.same("acts", desk.count(0), 13);
        due.same("calls answered", desk.count(3), 3);
        due.same("nothing is told", desk.told(0), 0);
        due.same("as again told it", desk.again(1, 9, 3), desk.call(1, 9, 3));
        desk.answers(1, 1000000, -1000000);
        due.same("beyond an int", desk.call(1, 9, -1000000), 1000001000009L + 3);
        due.same("below an int", desk.call(1, 1, 1000000), -999998999999L + 3 - 1000000);
    }

    private static void noSuchThing(Due due) {
        for (int number : new int[] {-1, 0, 2, 9, 10, Integer.MIN_VALUE, Integer.MAX_VALUE}) {
            due.refused("call of " + number, Due.MISSING, () -> Desks.thingsOf(0, 1), desk -> desk.call(0, number, 0));
        }
        due.refused("nothing of its kind yet", Due.MISSING, Desks::busy, desk -> desk.call(2, 1, 0));
        due.refused("a thing of another kind alone", Due.MISSING, () -> Desks.nineOf(0), desk -> desk.call(1, 1, 0));
        due.refused("one that was dropped", Due.MISSING, Desks::busy, desk -> desk.call(0, 1, 0));
        due.refused("one of the kind that it served before", Due.MISSING, Desks::busy, desk -> desk.call(3, 2, 0));
    }

    private static void thePartFailed(Due due) {
        for (int way = 1; way <= 3; way++) {
            StockDesk desk = Desks.busy();
            desk.fails(0, way);
            due.thrown("way " + way, Due.STATE, () -> desk.call(0, 2, 5));
            due.same("it is an act", desk.count(0), 14);
            due.tells("way " + way, desk, 2, way, 0, 2);
            due.same("it was not answered", desk.count(3), 2);
            due.same("uses", desk.uses(0, 2), 1);
            due.same("worth", desk.worth(0), 6);
            due.same("it can be taken back", desk.back(), 13);
            due.tells("taken back", desk, 1, 2, 5, 2);
        }
        StockDesk last = Desks.busyTo(59);
        due.thrown("as the sixtieth act", Due.STATE, () -> last.call(5, 2, 0));
        due.same("acts", last.count(0), 60);
        due.same("told how many", last.told(0), 2);
    }

    private static void sixtyActs(Due due) {
        StockDesk desk = Desks.busyTo(59);
        due.same("the sixtieth", desk.call(0, 2, 5), 50 + 10 + 2 + 6);
        due.same("acts", desk.count(0), 60);
        due.thrown("the sixty-first", Due.ROOM, () -> desk.call(0, 2, 5));
        due.refused("the sixty-first", Due.ROOM, Desks::full, d -> d.call(0, 2, 5));
        due.refused("the sixty-first, of a failing part", Due.ROOM, Desks::full, d -> d.call(5, 2, 5));
    }

    private static void theOrder(Due due) {
        due.refusedOutside(0, 5, "part, then the number", Desks::busy, (desk, part) -> desk.call(part, 0, 0));
        due.refusedOutside(0, 5, "part, then sixty", Desks::full, (desk, part) -> desk.call(part, 2, 0));
        due.refusedOutside(-1000000, 1000000, "a, then the number", Desks::busy, (desk, a) -> desk.call(0, 1, a));
        due.refusedOutside(-1000000, 1000000, "a, then sixty", Desks::full, (desk, a) -> desk.call(0, 2, a));
        due.refusedOutside(-1000000, 1000000, "a, then failing", Desks::busy, (desk, a) -> desk.call(5, 2, a));
        due.refused("part and a", Due.RANGE, Desks::full, desk -> desk.call(6, 1, 1000001));
        due.refused("the number, then sixty", Due.MISSING, Desks::full, desk -> desk.call(0, 1, 0));
        due.refused("the number, then failing", Due.MISSING, Desks::busy, desk -> desk.call(5, 1, 0));
        due.refused("sixty, then failing", Due.ROOM, Desks::full, desk -> desk.call(5, 2, 0));
    }
}

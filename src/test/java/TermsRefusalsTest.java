/** Terms: refusals, and which comes first. */
public final class TermsRefusalsTest {
    /** Of kind 0 the busy desk has the thing 2 alone: 1 was dropped, 3 not made. */
    private static final int[] NOT_THERE = {-1, 0, 1, 3, 9, 10, Integer.MIN_VALUE, Integer.MAX_VALUE};

    public static void main(String[] args) {
        Due due = new Due("Terms");
        due.sentence("REFUSALS, the first that holds", TermsRefusalsTest::firstThatHolds);
        due.sentence("NoSuchElementException: a thing that there is not (any more)", TermsRefusalsTest::noThing);
        due.sentence("IllegalArgumentException: another number outside its range", TermsRefusalsTest::outsideItsRange);
        due.sentence("IllegalStateException: not as it is now", TermsRefusalsTest::notAsItIs);
        due.sentence("UnsupportedOperationException: no room (for things, or acts).", TermsRefusalsTest::noRoom);
        due.end();
    }

    private static void firstThatHolds(Due due) {
        due.refused("no thing, no room: drop", Due.MISSING, Desks::full, desk -> desk.drop(0, 1));
        due.refused("no thing, no room: call", Due.MISSING, Desks::full, desk -> desk.call(0, 1, 0));
        due.refused("no thing, a failing part: call", Due.MISSING, Desks::busy, desk -> desk.call(5, 1, 0));
        due.refused("no thing, a failing part: again", Due.MISSING, Desks::busy, desk -> desk.again(5, 1, 0));
        due.refused("no thing, a failing part, no room: call", Due.MISSING, Desks::full, desk -> desk.call(5, 1, 0));
        due.refusedOutside(0, 4, "no room: make", Desks::full, (desk, kind) -> desk.make(kind));
        due.refusedOutside(0, 4, "no room: drop", Desks::full, (desk, kind) -> desk.drop(kind, 2));
        due.refusedOutside(0, 5, "no room: serves a part", Desks::full, (desk, part) -> desk.serves(part, 0));
        due.refusedOutside(0, 4, "no room: serves a kind", Desks::full, (desk, kind) -> desk.serves(0, kind));
        due.refusedOutside(0, 5, "no room: answers a part", Desks::full, (desk, part) -> desk.answers(part, 0, 0));
        due.refusedOutside(-1000000, 1000000, "no room: answers a base", Desks::full,
            (desk, base) -> desk.answers(0, base, 0));
        due.refusedOutside(-1000000, 1000000, "no room: answers a factor", Desks::full,
            (desk, factor) -> desk.answers(0, 0, factor));
        due.refusedOutside(0, 5, "no room: fails a part", Desks::full, (desk, part) -> desk.fails(part, 0));
        due.refusedOutside(0, 3, "no room: fails a way", Desks::full, (desk, way) -> desk.fails(0, way));
        due.refusedOutside(0, 255, "no room: collect", Desks::full, (desk, b) -> desk.collect(b));
        due.refusedOutside(-1000000, 1000000, "a failing part: call", Desks::busy, (desk, a) -> desk.call(5, 2, a));
        due.refusedOutside(-1000000, 1000000, "a failing part: again", Desks::busy, (desk, a) -> desk.again(5, 2, a));
    }

    private static void noThing(Due due) {
        for (int number : NOT_THERE) {
            due.refused("drop of " + number, Due.MISSING, Desks::busy, desk -> desk.drop(0, number));
            due.refused("call of " + number, Due.MISSING, Desks::busy, desk -> desk.call(0, number, 0));
            due.refused("again of " + number, Due.MISSING, Desks::busy, desk -> desk.again(0, number, 0));
            due.refused("uses of " + number, Due.MISSING, Desks::busy, desk -> desk.uses(0, number));
        }
        due.refused("the tenth of nine", Due.MISSING, () -> Desks.nineOf(4), desk -> desk.uses(4, 10));
        due.refused("the first of the next kind", Due.MISSING, () -> Desks.nineOf(3), desk -> desk.uses(4, 1));
        due.refused("the ninth of the kind before", Due.MISSING, () -> Desks.nineOf(3), desk -> desk.uses(2, 9));
    }

    private static void outsideItsRange(Due due) {
        due.refusedOutside(0, 3, "told", Desks::busy, (desk, what) -> desk.told(what));
        due.refusedOutside(0, 1, "numbers", Desks::busy, (desk, what) -> desk.numbers(0, what));
        due.refusedOutside(0, 3, "told on an empty desk", Desks::empty, (desk, what) -> desk.told(what));
        due.refusedOutside(0, 4, "make on an empty desk", Desks::empty, (desk, kind) -> desk.make(kind));
        due.refusedOutside(0, 4, "numbers on an empty desk", Desks::empty, (desk, kind) -> desk.numbers(kind, 0));
        due.refusedOutside(0, 5, "worth on an empty desk", Desks::empty, (desk, part) -> desk.worth(part));
    }

    private static void notAsItIs(Due due) {
        due.refused("nothing to take back", Due.STATE, Desks::empty, desk -> desk.back());
        due.refused("a part that would fail", Due.STATE, Desks::busy, desk -> desk.again(5, 2, 0));
        StockDesk desk = Desks.busy();
        due.thrown("a part that fails", Due.STATE, () -> desk.call(5, 2, 0));
        desk.fails(5, 0);
        due.same("as it is then", desk.call(5, 2, 0), 2);
    }

    private static void noRoom(Due due) {
        due.refused("for a thing", Due.ROOM, () -> Desks.nineOf(2), desk -> desk.make(2));
        due.refused("for an act", Due.ROOM, Desks::full, desk -> desk.make(2));
        due.refused("for both", Due.ROOM, TermsRefusalsTest::nineAndSixty, desk -> desk.make(2));
    }

    private static StockDesk nineAndSixty() {
        StockDesk desk = Desks.nineOf(2);
        for (int act = 9; act < Desks.ACTS; act++) {
            desk.collect(act);
        }
        return desk;
    }
}

/** Terms: kinds and things. */
public final class TermsThingsTest {
    public static void main(String[] args) {
        Due due = new Due("Terms");
        due.sentence("KINDS are 0 .. 4.", TermsThingsTest::kinds);
        due.sentence("THINGS of a kind are numbered 1, 2, .. as they are made", TermsThingsTest::numberedAsMade);
        due.sentence("(at most 9 of each kind, dropped ones too)", TermsThingsTest::atMostNine);
        due.sentence("a thing is THERE from being made until it is dropped.", TermsThingsTest::there);
        due.end();
    }

    private static void kinds(Due due) {
        for (int kind = 0; kind <= 4; kind++) {
            StockDesk desk = new StockDesk();
            due.same("make " + kind, desk.make(kind), 1);
            due.same("numbers " + kind, desk.numbers(kind, 1), 1);
            due.same("uses " + kind, desk.uses(kind, 1), 0);
            desk.serves(0, kind);
            due.same("a call of a part that serves " + kind, desk.call(0, 1, 0), 1);
            due.same("drop " + kind, desk.drop(kind, 1), 1);
        }
        due.refusedOutside(0, 4, "make", Desks::busy, (desk, kind) -> desk.make(kind));
        due.refusedOutside(0, 4, "drop", Desks::busy, (desk, kind) -> desk.drop(kind, 1));
        due.refusedOutside(0, 4, "serves", Desks::busy, (desk, kind) -> desk.serves(0, kind));
        due.refusedOutside(0, 4, "uses", Desks::busy, (desk, kind) -> desk.uses(kind, 1));
        due.refusedOutside(0, 4, "numbers", Desks::busy, (desk, kind) -> desk.numbers(kind, 0));
    }

    private static void numberedAsMade(Due due) {
        StockDesk desk = new StockDesk();
        for (int number = 1; number <= 9; number++) {
            for (int kind = 4; kind >= 0; kind--) {
                due.same("make " + kind, desk.make(kind), number);
            }
        }
        StockDesk gaps = new StockDesk();
        due.same("the first", gaps.make(3), 1);
        due.same("the second", gaps.make(3), 2);
        gaps.drop(3, 1);
        due.same("the third, with the first dropped", gaps.make(3), 3);
        gaps.drop(3, 3);
        due.same("the fourth, with the third dropped", gaps.make(3), 4);
        gaps.drop(3, 2);
        gaps.drop(3, 4);
        due.same("the fifth, with nothing left", gaps.make(3), 5);
        due.thrown("the first's number is not given twice", Due.MISSING, () -> gaps.uses(3, 1));
    }

    private static void atMostNine(Due due) {
        for (int kind = 0; kind <= 4; kind++) {
            int k = kind;
            StockDesk desk = Desks.thingsOf(kind, 8);
            due.same("the ninth of " + kind, desk.make(kind), 9);
            due.same("the ninth is there", desk.uses(kind, 9), 0);
            due.thrown("the tenth of " + kind, Due.ROOM, () -> desk.make(k));
            due.same("made", desk.numbers(kind, 0), 9);
            due.same("another kind has room of its own", desk.make((kind + 1) % 5), 1);
            due.refused("the tenth", Due.ROOM, () -> Desks.nineOf(k), d -> d.make(k));
            due.refused("the tenth with one dropped", Due.ROOM, () -> nineWithDropped(k, 1), d -> d.make(k));
            due.refused("the tenth with all dropped", Due.ROOM, () -> nineWithDropped(k, 9), d -> d.make(k));
        }
        due.same("of five kinds", fortyFive().count(1), 45);
        for (int kind = 0; kind <= 4; kind++) {
            int k = kind;
            due.refused("the tenth of each kind", Due.ROOM, TermsThingsTest::fortyFive, d -> d.make(k));
        }
    }

    private static StockDesk nineWithDropped(int kind, int dropped) {
        StockDesk desk = Desks.nineOf(kind);
        for (int number = 1; number <= dropped; number++) {
            desk.drop(kind, number);
        }
        return desk;
    }

    private static StockDesk fortyFive() {
        StockDesk desk = new StockDesk();
        for (int made = 0; made < 45; made++) {
            desk.make(made % 5);
        }
        return desk;
    }

    private static void there(Due due) {
        StockDesk desk = new StockDesk();
        due.thrown("before it is made", Due.MISSING, () -> desk.uses(2, 1));
        desk.make(2);
        due.same("made", desk.uses(2, 1), 0);
        due.thrown("the next one", Due.MISSING, () -> desk.uses(2, 2));
        desk.make(2);
        desk.make(2);
        due.same("a call", desk.call(2, 3, 0), 3);
        desk.drop(2, 2);
        due.thrown("uses of the dropped one", Due.MISSING, () -> desk.uses(2, 2));
        due.thrown("drop of the dropped one", Due.MISSING, () -> desk.drop(2, 2));
        due.thrown("call of the dropped one", Due.MISSING, () -> desk.call(2, 2, 0));
        due.thrown("again of the dropped one", Due.MISSING, () -> desk.again(2, 2, 0));
        due.same("the one before it", desk.uses(2, 1), 0);
        due.same("the one behind it", desk.uses(2, 3), 1);
        due.same("things there", desk.numbers(2, 1), 2);
        due.thrown("the dropped one's number of another kind", Due.MISSING, () -> desk.uses(3, 1));
    }
}

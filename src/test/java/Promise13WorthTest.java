/** Promise 13: worth. */
public final class Promise13WorthTest {
    public static void main(String[] args) {
        Due due = new Due("Promise 13: worth");
        due.sentence("A part's worth.", Promise13WorthTest::aPartsWorth);
        due.sentence("IllegalArgumentException.", Promise13WorthTest::refusals);
        due.end();
    }

    private static void aPartsWorth(Due due) {
        StockDesk desk = Desks.oneOfEach();
        for (int part = 0; part <= 5; part++) {
            due.same("at first " + part, desk.worth(part), 0);
            desk.call(part, 1, 10 + part);
            due.same("by one call " + part, desk.worth(part), 10 + part);
            desk.call(part, 1, -1000000);
            due.same("by the least " + part, desk.worth(part), part - 999990);
            desk.call(part, 1, 1000000);
            due.same("by the greatest " + part, desk.worth(part), 10 + part);
            desk.call(part, 1, 0);
            due.same("by nothing " + part, desk.worth(part), 10 + part);
        }
        for (int part = 0; part <= 5; part++) {
            due.same("each its own " + part, desk.worth(part), 10 + part);
        }
        staysWith(due);
    }

    private static void staysWith(Due due) {
        StockDesk desk = Desks.busy();
        due.same("worth", desk.worth(0), 6);
        desk.drop(0, 2);
        desk.serves(0, 1);
        desk.answers(0, 1, 1);
        desk.fails(0, 3);
        Due.outcome(() -> desk.call(0, 1, 100));
        desk.collect(9);
        due.same("worth behind acts that are no answered calls", desk.worth(0), 6);
        for (int act = 0; act < 7; act++) {
            desk.back();
        }
        due.same("worth with later calls taken back", desk.worth(0), 6);
        for (int act = 0; act < 4; act++) {
            desk.back();
        }
        due.same("worth with its call taken back", desk.worth(0), 0);
    }

    private static void refusals(Due due) {
        due.refusedOutside(0, 5, "worth", Desks::empty, (desk, part) -> desk.worth(part));
        due.refusedOutside(0, 5, "worth", Desks::busy, (desk, part) -> desk.worth(part));
        due.refusedOutside(0, 5, "worth", Desks::full, (desk, part) -> desk.worth(part));
    }
}

/** Promise 5: answers. */
public final class Promise05AnswersTest {
    private static final int LEAST = -1000000;
    private static final int GREATEST = 1000000;

    public static void main(String[] args) {
        Due due = new Due("Promise 5: answers");
        due.sentence("A part's base and factor.", Promise05AnswersTest::baseAndFactor);
        due.sentence("throws IllegalArgumentException, UnsupportedOperationException", Promise05AnswersTest::refusals);
        due.end();
    }

    private static void baseAndFactor(Due due) {
        for (int part = 0; part <= 5; part++) {
            StockDesk desk = Desks.oneOfEach();
            for (int base : new int[] {LEAST, -1, 0, 1, GREATEST}) {
                for (int factor : new int[] {LEAST, -1, 0, 1, GREATEST}) {
                    desk.answers(part, base, factor);
                    due.same("base " + base, desk.again(part, 1, 0), base + 1L);
                    due.same("factor " + factor, desk.again(part, 1, 3), base + 3L * factor + 1);
                    int other = (part + 1) % 6;
                    due.same("another part's", desk.again(other, 1, 3), 1);
                }
            }
            due.same("acts", desk.count(0), 30);
        }
        StockDesk desk = Desks.busyTo(59);
        desk.answers(0, 7, 1);
        due.same("as the sixtieth act, with the worth that it had", desk.again(0, 2, 5), 7 + 5 + 2 + 6);
    }

    private static void refusals(Due due) {
        due.refusedOutside(0, 5, "answers of a part", Desks::busy, (desk, part) -> desk.answers(part, 1, 1));
        due.refusedOutside(LEAST, GREATEST, "answers of a base", Desks::busy, (desk, base) -> desk.answers(0, base, 1));
        due.refusedOutside(LEAST, GREATEST, "answers of a factor", Desks::busy,
            (desk, factor) -> desk.answers(0, 1, factor));
        due.refused("the sixty-first act", Due.ROOM, Desks::full, desk -> desk.answers(0, 1, 1));
        due.refused("the sixty-first act, without a change", Due.ROOM, Desks::full, desk -> desk.answers(0, 50, 2));
        due.refused("a part, then sixty", Due.RANGE, Desks::full, desk -> desk.answers(-1, 0, 0));
        due.refused("a base, then sixty", Due.RANGE, Desks::full, desk -> desk.answers(0, LEAST - 1, 0));
        due.refused("a factor, then sixty", Due.RANGE, Desks::full, desk -> desk.answers(0, 0, GREATEST + 1));
    }
}

/** Terms: parts. */
public final class TermsPartsTest {
    private static final int LEAST = -1000000;
    private static final int GREATEST = 1000000;

    public static void main(String[] args) {
        Due due = new Due("Terms");
        due.sentence("PARTS are 0 .. 5.", TermsPartsTest::parts);
        due.sentence("A part serves things of a KIND (part p kind p modulo 5 at first)", TermsPartsTest::firstKinds);
        due.sentence("has a BASE and a FACTOR (0 at first, -1000000 .. 1000000 each)", TermsPartsTest::baseAndFactor);
        due.sentence("a WORTH (0 at first)", TermsPartsTest::worthAtFirst);
        due.sentence("and FAILS in some way or not: 0 not, 1 before its work, 2 amid it, 3 behind it.",
            TermsPartsTest::ways);
        due.end();
    }

    private static void parts(Due due) {
        for (int part = 0; part <= 5; part++) {
            StockDesk desk = new StockDesk();
            desk.make(4);
            desk.serves(part, 4);
            desk.answers(part, 10, 2);
            due.same("fails " + part, desk.fails(part, 0), 0);
            due.same("call " + part, desk.call(part, 1, 5), 21);
            due.same("again " + part, desk.again(part, 1, 5), 26);
            due.same("worth " + part, desk.worth(part), 5);
        }
        due.refusedOutside(0, 5, "serves", Desks::busy, (desk, part) -> desk.serves(part, 0));
        due.refusedOutside(0, 5, "answers", Desks::busy, (desk, part) -> desk.answers(part, 0, 0));
        due.refusedOutside(0, 5, "fails", Desks::busy, (desk, part) -> desk.fails(part, 0));
        due.refusedOutside(0, 5, "call", Desks::busy, (desk, part) -> desk.call(part, 1, 0));
        due.refusedOutside(0, 5, "again", Desks::busy, (desk, part) -> desk.again(part, 1, 0));
        due.refusedOutside(0, 5, "worth", Desks::busy, (desk, part) -> desk.worth(part));
    }

    /** The fifth part's kind is where the modulus is passed. */
    private static void firstKinds(Due due) {
        int[] kinds = {0, 1, 2, 3, 4, 0};
        for (int part = 0; part <= 5; part++) {
            for (int kind = 0; kind <= 4; kind++) {
                StockDesk desk = new StockDesk();
                desk.make(kind);
                int p = part;
                String want = kinds[part] == kind ? "1" : Due.MISSING.getName();
                due.same("again " + part + " on " + kind, Due.outcome(() -> desk.again(p, 1, 5)), want);
                due.same("call " + part + " on " + kind, Due.outcome(() -> desk.call(p, 1, 5)), want);
            }
        }
    }

    private static void baseAndFactor(Due due) {
        for (int part = 0; part <= 5; part++) {
            StockDesk desk = Desks.oneOfEach();
            due.same("the base at first", desk.again(part, 1, 0), 1);
            due.same("the factor at first", desk.again(part, 1, GREATEST), 1);
            desk.answers(part, LEAST, GREATEST);
            due.same("the least base", desk.again(part, 1, 0), LEAST + 1);
            due.same("the greatest factor", desk.again(part, 1, 1), LEAST + 1 + GREATEST);
            desk.answers(part, GREATEST, LEAST);
            due.same("the greatest base", desk.call(part, 1, 0), GREATEST + 1);
            due.same("the least factor", desk.call(part, 1, 1), GREATEST + 1 + LEAST);
        }
        due.refusedOutside(LEAST, GREATEST, "base", Desks::busy, (desk, base) -> desk.answers(0, base, 0));
        due.refusedOutside(LEAST, GREATEST, "factor", Desks::busy, (desk, factor) -> desk.answers(0, 0, factor));
        due.refusedOutside(LEAST, GREATEST, "both", Desks::busy, (desk, both) -> desk.answers(0, both, both));
    }

    private static void worthAtFirst(Due due) {
        for (int part = 0; part <= 5; part++) {
            StockDesk desk = Desks.oneOfEach();
            due.same("worth " + part, desk.worth(part), 0);
            due.same("in its first answer", desk.call(part, 1, 9), 1);
            due.same("worth behind it " + part, desk.worth(part), 9);
        }
    }

    private static void ways(Due due) {
        for (int part = 0; part <= 5; part++) {
            int p = part;
            StockDesk desk = Desks.oneOfEach();
            due.same("the way at first", desk.fails(part, 0), 0);
            due.same("a call by way 0", desk.call(part, 1, 0), 1);
            for (int way = 1; way <= 3; way++) {
                desk.fails(part, way);
                due.thrown("a call by way " + way, Due.STATE, () -> desk.call(p, 1, 0));
                due.same("the way told", desk.told(1), way);
            }
            due.same("the greatest way", desk.fails(part, 0), 3);
            due.same("a call by way 0 again", desk.call(part, 1, 0), 1);
        }
        due.refusedOutside(0, 3, "fails", Desks::busy, (desk, way) -> desk.fails(5, way));
    }
}

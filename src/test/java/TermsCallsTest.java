/** Terms: calls. */
public final class TermsCallsTest {
    private static final int LEAST = -1000000;
    private static final int GREATEST = 1000000;

    public static void main(String[] args) {
        Due due = new Due("Terms");
        due.sentence("A CALL of a part with a number and an argument a (-1000000 .. 1000000)", TermsCallsTest::argument);
        due.sentence("its answer is base plus factor times a, plus the number, plus its worth as it was.",
            TermsCallsTest::answer);
        due.sentence("Its WORK has two steps: the thing of this number has one more USE, then its worth is greater by a.",
            TermsCallsTest::work);
        due.end();
    }

    private static void argument(Due due) {
        StockDesk desk = Desks.busy();
        due.same("again with the least", desk.again(0, 2, LEAST), 50 - 2000000 + 2 + 6);
        due.same("again with the greatest", desk.again(0, 2, GREATEST), 50 + 2000000 + 2 + 6);
        due.same("call with the least", desk.call(0, 2, LEAST), 50 - 2000000 + 2 + 6);
        due.same("call with the greatest", desk.call(0, 2, GREATEST), 50 + 2000000 + 2 + 6 + LEAST);
        due.same("call with none", desk.call(0, 2, 0), 50 + 2 + 6);
        due.refusedOutside(LEAST, GREATEST, "call", Desks::busy, (d, a) -> d.call(0, 2, a));
        due.refusedOutside(LEAST, GREATEST, "again", Desks::busy, (d, a) -> d.again(0, 2, a));
    }

    private static void answer(Due due) {
        StockDesk desk = Desks.nineOf(0);
        desk.answers(5, 100, -7);
        due.same("without a worth", desk.call(5, 2, 3), 100 - 21 + 2);
        due.same("with its worth as it was", desk.call(5, 9, -10), 100 + 70 + 9 + 3);
        due.same("with a worth below 0", desk.call(5, 1, 0), 100 + 1 - 7);
        due.same("another part's worth is its own", desk.call(0, 1, 0), 1);
        greatestAnswers(due);
    }

    /** Far beyond an int: the product alone is 1000000000000. */
    private static void greatestAnswers(Due due) {
        StockDesk desk = Desks.nineOf(0);
        desk.answers(0, GREATEST, GREATEST);
        due.same("the greatest", desk.call(0, 9, GREATEST), 1000001000009L);
        due.same("the greatest, with a worth", desk.call(0, 9, GREATEST), 1000002000009L);
        due.same("the same of again", desk.again(0, 9, GREATEST), 1000003000009L);
        desk.answers(5, LEAST, GREATEST);
        due.same("the least", desk.call(5, 1, LEAST), -1000000999999L);
        due.same("the least, with a worth", desk.call(5, 1, LEAST), -1000001999999L);
        due.same("the same of again", desk.again(5, 1, LEAST), -1000002999999L);
        desk.answers(5, 0, LEAST);
        due.same("the least of both", desk.call(5, 1, LEAST), 1000000000000L + 1 - 2000000);
    }

    private static void work(Due due) {
        StockDesk desk = Desks.nineOf(0);
        desk.call(0, 1, 5);
        desk.call(0, 9, 0);
        desk.call(5, 9, -3);
        due.same("uses of the first", desk.uses(0, 1), 1);
        due.same("uses of one that was not called", desk.uses(0, 2), 0);
        due.same("uses of the last, by two parts", desk.uses(0, 9), 2);
        due.same("worth by 5 and by 0", desk.worth(0), 5);
        due.same("worth by less than 0", desk.worth(5), -3);
        due.same("worth of another part", desk.worth(1), 0);
        mostWork(due, GREATEST, 59000000);
        mostWork(due, LEAST, -59000000);
    }

    /** One make leaves room for 59 calls. */
    private static void mostWork(Due due, int a, long worth) {
        StockDesk desk = new StockDesk();
        desk.make(3);
        for (int call = 0; call < 59; call++) {
            desk.call(3, 1, a);
        }
        due.same("the most uses", desk.uses(3, 1), 59);
        due.same("the most worth", desk.worth(3), worth);
    }
}

/** Terms: failures. */
public final class TermsFailuresTest {
    public static void main(String[] args) {
        Due due = new Due("Terms");
        due.sentence("A FAILURE undoes what its part did in this call", TermsFailuresTest::undone);
        due.sentence("it is TOLD: its way, the part and the number of the latest one, and how many there were.",
            TermsFailuresTest::told);
        due.end();
    }

    private static void undone(Due due) {
        for (int way = 1; way <= 3; way++) {
            for (int a : new int[] {-1000000, 0, 1000000}) {
                StockDesk desk = Desks.busy();
                long answer = desk.again(0, 2, 4);
                desk.fails(0, way);
                due.thrown("a call that fails by way " + way, Due.STATE, () -> desk.call(0, 2, a));
                due.same("uses", desk.uses(0, 2), 1);
                due.same("worth", desk.worth(0), 6);
                due.same("calls answered", desk.count(3), 2);
                desk.fails(0, 0);
                due.same("the answer behind it", desk.call(0, 2, 4), answer);
                due.same("uses behind it", desk.uses(0, 2), 2);
                due.same("worth behind it", desk.worth(0), 10);
            }
        }
        neverUsed(due);
    }

    /** What earlier calls of the same part did stays: a thing without a use, a part without worth. */
    private static void neverUsed(Due due) {
        for (int way = 1; way <= 3; way++) {
            StockDesk desk = new StockDesk();
            desk.make(2);
            desk.fails(2, way);
            due.thrown("the first call of all", Due.STATE, () -> desk.call(2, 1, 77));
            due.same("uses", desk.uses(2, 1), 0);
            due.same("worth", desk.worth(2), 0);
            due.same("drop", desk.drop(2, 1), 0);
        }
    }

    private static void told(Due due) {
        StockDesk desk = Desks.nineOf(0);
        due.tells("without one", desk, 0, 0, -1, -1);
        desk.fails(0, 3);
        desk.fails(5, 1);
        due.tells("without a call", desk, 0, 0, -1, -1);
        due.thrown("the first failure", Due.STATE, () -> desk.call(5, 9, 0));
        due.tells("one failure", desk, 1, 1, 5, 9);
        due.thrown("the second failure", Due.STATE, () -> desk.call(0, 1, 0));
        due.tells("two failures", desk, 2, 3, 0, 1);
        desk.fails(0, 2);
        desk.drop(0, 1);
        due.tells("another way, and no such thing any more", desk, 2, 3, 0, 1);
        due.thrown("the third failure", Due.STATE, () -> desk.call(0, 2, 0));
        due.tells("three failures", desk, 3, 2, 0, 2);
        desk.fails(0, 0);
        due.same("a call that is answered", desk.call(0, 3, 0), 3);
        due.tells("behind an answer", desk, 3, 2, 0, 2);
        due.thrown("a refused call", Due.MISSING, () -> desk.call(5, 1, 0));
        due.tells("behind a refusal", desk, 3, 2, 0, 2);
        mostFailures(due);
    }

    /** A make and a way leave room for 58 failures. */
    private static void mostFailures(Due due) {
        StockDesk desk = new StockDesk();
        desk.make(4);
        desk.fails(4, 3);
        for (int failure = 1; failure <= 58; failure++) {
            due.thrown("failure " + failure, Due.STATE, () -> desk.call(4, 1, 0));
            due.same("how many", desk.told(0), failure);
        }
        due.thrown("one more", Due.ROOM, () -> desk.call(4, 1, 0));
        due.tells("the most failures", desk, 58, 3, 4, 1);
    }
}

/** Promises 4 serves, 5 answers, 6 fails, 13 worth. */
public final class PartsTest {
    private static final int[] WRONG_PARTS = {-1, 6, Integer.MIN_VALUE, Integer.MAX_VALUE};
    private static final int[] WRONG_AMOUNTS = {-1000001, 1000001, Integer.MIN_VALUE, Integer.MAX_VALUE};

    public static void main(String[] args) {
        Due due = new Due();
        servesAnotherKind(due);
        servesRefuses(due);
        answersSetsBaseAndFactor(due);
        answersRefuses(due);
        failsAnswersTheWayBefore(due);
        failsRefuses(due);
        worthOfParts(due);
        noChangeIsAnActToo(due);
        due.end();
    }

    private static void servesAnotherKind(Due due) {
        for (int part = 0; part < 6; part++) {
            for (int kind = 0; kind < 5; kind++) {
                StockDesk desk = new StockDesk();
                desk.make(kind);
                desk.serves(part, kind);
                due.same("call of part " + part + " on kind " + kind, desk.call(part, 1, 3), 1);
                due.same("uses", desk.uses(kind, 1), 1);
                desk.serves(part, (kind + 1) % 5);
                int p = part;
                due.refused("call behind the change", Due.MISSING, () -> desk.call(p, 1, 3));
                due.same("worth stays", desk.worth(part), 3);
            }
        }
    }

    private static void servesRefuses(Due due) {
        StockDesk desk = new StockDesk();
        StockDesk full = Due.fullDesk();
        for (int part : WRONG_PARTS) {
            due.refused("serves of part " + part, Due.RANGE, () -> desk.serves(part, 0));
            due.refused("serves of part on a full desk " + part, Due.RANGE, () -> full.serves(part, 0));
        }
        for (int kind : new int[] {-1, 5, Integer.MIN_VALUE, Integer.MAX_VALUE}) {
            due.refused("serves of kind " + kind, Due.RANGE, () -> desk.serves(0, kind));
            due.refused("serves of kind on a full desk " + kind, Due.RANGE, () -> full.serves(0, kind));
        }
        due.same("acts", desk.count(0), 0);
        due.refused("serves as sixty-first", Due.ROOM, () -> full.serves(0, 1));
        due.same("the kind stays", full.again(0, 1, 0), 1);
    }

    private static void answersSetsBaseAndFactor(Due due) {
        StockDesk desk = new StockDesk();
        desk.make(0);
        desk.answers(5, 1000000, 1000000);
        due.same("the greatest", desk.again(5, 1, 1000000), 1000001000001L);
        due.same("the greatest factor, least argument", desk.again(5, 1, -1000000), -999998999999L);
        desk.answers(5, -1000000, -1000000);
        due.same("the least", desk.again(5, 1, 1000000), -1000000999999L);
        due.same("the least factor and argument", desk.again(5, 1, -1000000), 999999000001L);
        due.same("another part", desk.again(0, 1, 1000000), 1);
        desk.answers(5, 10, 3);
        due.same("base and factor", desk.call(5, 1, 7), 32);
    }

    private static void answersRefuses(Due due) {
        StockDesk desk = new StockDesk();
        StockDesk full = Due.fullDesk();
        for (int part : WRONG_PARTS) {
            due.refused("answers of part " + part, Due.RANGE, () -> desk.answers(part, 0, 0));
            due.refused("answers of part on a full desk " + part, Due.RANGE, () -> full.answers(part, 0, 0));
        }
        for (int amount : WRONG_AMOUNTS) {
            due.refused("answers of base " + amount, Due.RANGE, () -> desk.answers(0, amount, 0));
            due.refused("answers of factor " + amount, Due.RANGE, () -> desk.answers(0, 0, amount));
            due.refused("answers of factor on a full desk " + amount, Due.RANGE, () -> full.answers(0, 0, amount));
        }
        due.same("acts", desk.count(0), 0);
        due.refused("answers as sixty-first", Due.ROOM, () -> full.answers(0, 5, 5));
        due.same("the base stays", full.again(0, 1, 1), 1);
    }

    private static void failsAnswersTheWayBefore(Due due) {
        for (int part = 0; part < 6; part++) {
            StockDesk desk = new StockDesk();
            int before = 0;
            for (int way : new int[] {0, 1, 2, 3, 3, 0, 2, 1, 0}) {
                due.same("fails " + part + " " + way, desk.fails(part, way), before);
                before = way;
            }
            due.same("nothing is told", desk.told(0), 0);
            due.same("acts", desk.count(0), 9);
        }
    }

    private static void failsRefuses(Due due) {
        StockDesk desk = new StockDesk();
        StockDesk full = Due.fullDesk();
        for (int part : WRONG_PARTS) {
            due.refused("fails of part " + part, Due.RANGE, () -> desk.fails(part, 0));
            due.refused("fails of part on a full desk " + part, Due.RANGE, () -> full.fails(part, 0));
        }
        for (int way : new int[] {-1, 4, Integer.MIN_VALUE, Integer.MAX_VALUE}) {
            due.refused("fails of way " + way, Due.RANGE, () -> desk.fails(0, way));
            due.refused("fails of way on a full desk " + way, Due.RANGE, () -> full.fails(0, way));
        }
        due.same("acts", desk.count(0), 0);
        due.refused("fails as sixty-first", Due.ROOM, () -> full.fails(0, 1));
        due.same("the way stays", full.again(0, 1, 1), 1);
    }

    private static void worthOfParts(Due due) {
        StockDesk desk = new StockDesk();
        desk.make(0);
        for (int i = 1; i < 59; i++) {
            desk.call(5, 1, -1000000);
        }
        desk.call(0, 1, 12);
        due.same("worth of part 5", desk.worth(5), -58000000);
        due.same("worth of part 0", desk.worth(0), 12);
        due.same("worth of part 1", desk.worth(1), 0);
        for (int part : WRONG_PARTS) {
            due.refused("worth of part " + part, Due.RANGE, () -> desk.worth(part));
        }
    }

    private static void noChangeIsAnActToo(Due due) {
        StockDesk desk = new StockDesk();
        desk.serves(0, 0);
        desk.answers(0, 0, 0);
        desk.fails(0, 0);
        due.same("acts without a change", desk.count(0), 3);
        due.same("back", desk.back(), 2);
    }
}

/** Promises 7 call, 12 told. */
public final class CallTest {
    public static void main(String[] args) {
        Due due = new Due();
        callAnswersAndWorks(due);
        failureIsUndoneAndTold(due);
        latestFailureIsTold(due);
        callRefuses(due);
        callRefusesInOrder(due);
        toldRefuses(due);
        due.end();
    }

    private static void callAnswersAndWorks(Due due) {
        StockDesk desk = new StockDesk();
        desk.make(2);
        desk.make(2);
        desk.answers(2, 100, -7);
        due.same("base, factor, number", desk.call(2, 2, 3), 81);
        due.same("with its worth as it was", desk.call(2, 1, -10), 174);
        due.same("worth", desk.worth(2), -7);
        due.same("uses of 1", desk.uses(2, 1), 1);
        due.same("uses of 2", desk.uses(2, 2), 1);
        due.same("calls answered", desk.count(3), 2);
        due.same("acts", desk.count(0), 5);
        due.same("the greatest argument", desk.call(2, 1, 1000000), 100 - 7000000L + 1 - 7);
        due.same("the least argument", desk.call(2, 1, -1000000), 100 + 7000000L + 1 + 999993);
        due.same("nothing is told", desk.told(0), 0);
    }

    private static void failureIsUndoneAndTold(Due due) {
        for (int way = 1; way <= 3; way++) {
            StockDesk desk = new StockDesk();
            desk.make(0);
            desk.make(0);
            desk.call(5, 2, 40);
            desk.fails(5, way);
            due.refused("call failing by way " + way, Due.STATE, () -> desk.call(5, 2, 9));
            due.same("uses", desk.uses(0, 2), 1);
            due.same("worth", desk.worth(5), 40);
            due.same("calls answered", desk.count(3), 1);
            due.same("acts", desk.count(0), 5);
            due.same("told how many", desk.told(0), 1);
            due.same("told way", desk.told(1), way);
            due.same("told part", desk.told(2), 5);
            due.same("told number", desk.told(3), 2);
            due.same("another part works", desk.call(0, 2, 9), 2);
            desk.fails(5, 0);
            due.same("it works again", desk.call(5, 2, 9), 42);
            due.same("what was told stays", desk.told(1), way);
        }
    }

    private static void latestFailureIsTold(Due due) {
        StockDesk desk = new StockDesk();
        desk.make(0);
        desk.make(1);
        desk.make(1);
        desk.fails(0, 3);
        desk.fails(1, 1);
        due.refused("first failure", Due.STATE, () -> desk.call(1, 2, 0));
        due.refused("second failure", Due.STATE, () -> desk.call(0, 1, 0));
        desk.drop(0, 1);
        desk.fails(0, 2);
        due.same("told how many", desk.told(0), 2);
        due.same("told way as it was then", desk.told(1), 3);
        due.same("told part", desk.told(2), 0);
        due.same("told number", desk.told(3), 1);
    }

    private static void callRefuses(Due due) {
        StockDesk desk = new StockDesk();
        desk.make(0);
        String before = Due.wholeOf(desk);
        for (int part : new int[] {-1, 6, Integer.MIN_VALUE, Integer.MAX_VALUE}) {
            due.refused("call of part " + part, Due.RANGE, () -> desk.call(part, 1, 0));
        }
        for (int a : new int[] {-1000001, 1000001, Integer.MIN_VALUE, Integer.MAX_VALUE}) {
            due.refused("call with " + a, Due.RANGE, () -> desk.call(0, 1, a));
        }
        for (int number : new int[] {-1, 0, 2, 9, 10, Integer.MIN_VALUE, Integer.MAX_VALUE}) {
            due.refused("call of number " + number, Due.MISSING, () -> desk.call(0, number, 0));
        }
        due.refused("call of another kind's number", Due.MISSING, () -> desk.call(1, 1, 0));
        due.same("the desk behind refusals", Due.wholeOf(desk), before);
    }

    private static void callRefusesInOrder(Due due) {
        StockDesk desk = new StockDesk();
        desk.make(0);
        desk.fails(0, 1);
        for (int i = 2; i < 60; i++) {
            desk.collect(0);
        }
        due.refused("part before number", Due.RANGE, () -> desk.call(6, 2, 0));
        due.refused("argument before number", Due.RANGE, () -> desk.call(0, 2, 1000001));
        due.refused("number before sixty", Due.MISSING, () -> desk.call(0, 2, 0));
        due.refused("sixty before failing", Due.ROOM, () -> desk.call(0, 1, 0));
        due.same("nothing is told", desk.told(0), 0);
        desk.back();
        due.refused("failing as the sixtieth", Due.STATE, () -> desk.call(0, 1, 0));
        due.same("acts", desk.count(0), 60);
        due.same("told", desk.told(0), 1);
        StockDesk willing = Due.fullDesk();
        due.refused("call as sixty-first", Due.ROOM, () -> willing.call(0, 1, 5));
        due.same("worth", willing.worth(0), 0);
        willing.back();
        due.same("call as the sixtieth", willing.call(0, 1, 5), 1);
    }

    private static void toldRefuses(Due due) {
        StockDesk desk = new StockDesk();
        for (int what : new int[] {-1, 4, Integer.MIN_VALUE, Integer.MAX_VALUE}) {
            due.refused("told " + what, Due.RANGE, () -> desk.told(what));
        }
    }
}

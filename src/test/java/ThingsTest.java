/** Promises 2 make, 3 drop, 14 uses, 15 numbers. */
public final class ThingsTest {
    public static void main(String[] args) {
        Due due = new Due();
        makeNumbersInOrder(due);
        makeRefuses(due);
        dropAnswersUses(due);
        droppedNumbersStayTaken(due);
        dropRefuses(due);
        usesOfOneThing(due);
        usesRefuses(due);
        numbersOfKinds(due);
        due.end();
    }

    private static void makeNumbersInOrder(Due due) {
        for (int kind = 0; kind < 5; kind++) {
            StockDesk desk = new StockDesk();
            int k = kind;
            for (int number = 1; number <= 9; number++) {
                due.same("make " + kind, desk.make(kind), number);
            }
            String before = Due.wholeOf(desk);
            due.refused("the tenth make " + kind, Due.ROOM, () -> desk.make(k));
            due.same("the desk behind the tenth", Due.wholeOf(desk), before);
            due.same("acts behind the tenth", desk.count(0), 9);
            due.same("another kind's first", desk.make((kind + 1) % 5), 1);
        }
    }

    private static void makeRefuses(Due due) {
        StockDesk desk = new StockDesk();
        for (int kind : new int[] {-1, 5, Integer.MIN_VALUE, Integer.MAX_VALUE}) {
            due.refused("make " + kind, Due.RANGE, () -> desk.make(kind));
        }
        due.same("acts", desk.count(0), 0);
        StockDesk full = Due.fullDesk();
        due.refused("make as sixty-first", Due.ROOM, () -> full.make(1));
        due.refused("make of a wrong kind as sixty-first", Due.RANGE, () -> full.make(5));
        due.same("made", full.numbers(1, 0), 0);
    }

    private static void dropAnswersUses(Due due) {
        StockDesk desk = new StockDesk();
        desk.make(4);
        desk.make(4);
        desk.call(4, 2, 0);
        desk.call(4, 2, 0);
        desk.call(4, 1, 0);
        due.same("drop 4 2", desk.drop(4, 2), 2);
        due.same("things there", desk.count(1), 1);
        due.same("acts", desk.count(0), 6);
        due.refused("drop 4 2 again", Due.MISSING, () -> desk.drop(4, 2));
        due.refused("call of a dropped thing", Due.MISSING, () -> desk.call(4, 2, 0));
        due.refused("again of a dropped thing", Due.MISSING, () -> desk.again(4, 2, 0));
        due.same("drop 4 1", desk.drop(4, 1), 1);
        due.same("acts", desk.count(0), 7);
    }

    private static void droppedNumbersStayTaken(Due due) {
        StockDesk desk = new StockDesk();
        for (int number = 1; number <= 9; number++) {
            due.same("make", desk.make(2), number);
            due.same("drop", desk.drop(2, number), 0);
        }
        due.refused("the tenth with all dropped", Due.ROOM, () -> desk.make(2));
        due.same("made", desk.numbers(2, 0), 9);
        due.same("there", desk.numbers(2, 1), 0);
    }

    private static void dropRefuses(Due due) {
        StockDesk desk = new StockDesk();
        desk.make(0);
        for (int kind : new int[] {-1, 5, Integer.MIN_VALUE, Integer.MAX_VALUE}) {
            due.refused("drop of kind " + kind, Due.RANGE, () -> desk.drop(kind, 1));
            due.refused("drop of kind and number wrong " + kind, Due.RANGE, () -> desk.drop(kind, 0));
        }
        for (int number : new int[] {-1, 0, 2, 9, 10, Integer.MIN_VALUE, Integer.MAX_VALUE}) {
            due.refused("drop of number " + number, Due.MISSING, () -> desk.drop(0, number));
        }
        due.refused("drop of another kind's number", Due.MISSING, () -> desk.drop(1, 1));
        due.same("acts", desk.count(0), 1);
        StockDesk full = Due.fullDesk();
        due.refused("drop as sixty-first", Due.ROOM, () -> full.drop(0, 1));
        due.refused("drop of nothing as sixty-first", Due.MISSING, () -> full.drop(0, 2));
        due.refused("drop of a wrong kind as sixty-first", Due.RANGE, () -> full.drop(-1, 1));
        due.same("uses of what was not dropped", full.uses(0, 1), 0);
    }

    private static void usesOfOneThing(Due due) {
        StockDesk desk = new StockDesk();
        desk.make(0);
        desk.make(0);
        desk.make(1);
        desk.call(0, 2, 4);
        desk.call(5, 2, -4);
        desk.serves(1, 0);
        desk.call(1, 2, 1);
        due.same("uses 0 1", desk.uses(0, 1), 0);
        due.same("uses 0 2", desk.uses(0, 2), 3);
        due.same("uses 1 1", desk.uses(1, 1), 0);
    }

    private static void usesRefuses(Due due) {
        StockDesk desk = new StockDesk();
        for (int number = 1; number <= 9; number++) {
            desk.make(4);
        }
        due.same("uses of the ninth", desk.uses(4, 9), 0);
        for (int number : new int[] {-1, 0, 10, Integer.MIN_VALUE, Integer.MAX_VALUE}) {
            due.refused("uses of number " + number, Due.MISSING, () -> desk.uses(4, number));
        }
        for (int kind : new int[] {-1, 5, Integer.MIN_VALUE, Integer.MAX_VALUE}) {
            due.refused("uses of kind " + kind, Due.RANGE, () -> desk.uses(kind, 1));
            due.refused("uses of both wrong " + kind, Due.RANGE, () -> desk.uses(kind, 10));
        }
        desk.drop(4, 9);
        due.refused("uses of a dropped thing", Due.MISSING, () -> desk.uses(4, 9));
    }

    private static void numbersOfKinds(Due due) {
        StockDesk desk = new StockDesk();
        for (int kind = 0; kind < 5; kind++) {
            for (int i = 0; i <= kind; i++) {
                desk.make(kind);
            }
        }
        desk.drop(3, 2);
        desk.drop(3, 4);
        for (int kind = 0; kind < 5; kind++) {
            due.same("made of " + kind, desk.numbers(kind, 0), kind + 1);
            due.same("there of " + kind, desk.numbers(kind, 1), kind == 3 ? 2 : kind + 1);
            for (int what : new int[] {-1, 2, Integer.MIN_VALUE, Integer.MAX_VALUE}) {
                int k = kind;
                due.refused("numbers what " + what, Due.RANGE, () -> desk.numbers(k, what));
            }
        }
        for (int kind : new int[] {-1, 5, Integer.MIN_VALUE, Integer.MAX_VALUE}) {
            due.refused("numbers of kind " + kind, Due.RANGE, () -> desk.numbers(kind, 0));
            due.refused("numbers of kind " + kind, Due.RANGE, () -> desk.numbers(kind, 1));
        }
    }
}

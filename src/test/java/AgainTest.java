/** Promise 8: again. */
public final class AgainTest {
    public static void main(String[] args) {
        Due due = new Due();
        answersAsACallWould(due);
        secondHouseStartsAnew(due);
        changesNothing(due);
        wouldFail(due);
        failuresAreDoneAgain(due);
        sixtyAreNotAsked(due);
        refuses(due);
        due.end();
    }

    private static StockDesk busyDesk() {
        StockDesk desk = new StockDesk();
        desk.make(0);
        desk.make(1);
        desk.make(1);
        desk.drop(1, 1);
        desk.serves(0, 1);
        desk.answers(0, 50, 2);
        desk.call(0, 2, 6);
        desk.collect(200);
        return desk;
    }

    private static void answersAsACallWould(Due due) {
        StockDesk desk = busyDesk();
        due.same("again", desk.again(0, 2, 5), 68);
        due.same("again once more", desk.again(0, 2, 5), 68);
        due.same("call", desk.call(0, 2, 5), 68);
        due.same("again behind the call", desk.again(0, 2, 5), 73);
        desk.back();
        desk.back();
        due.same("again behind taking back", desk.again(0, 2, 5), 68);
        desk.back();
        due.same("again without the call", desk.again(0, 2, 5), 62);
        due.same("the greatest argument", desk.again(0, 2, 1000000), 2000052);
        due.same("the least argument", desk.again(0, 2, -1000000), -1999948);
    }

    private static void secondHouseStartsAnew(Due due) {
        StockDesk desk = new StockDesk();
        desk.make(0);
        desk.answers(0, 50, 2);
        due.same("again with base and factor", desk.again(0, 1, 5), 61);
        desk.back();
        due.same("again with them taken back", desk.again(0, 1, 5), 1);
        desk.serves(0, 3);
        due.refused("again with another kind", Due.MISSING, () -> desk.again(0, 1, 5));
        desk.back();
        due.same("again with the kind taken back", desk.again(0, 1, 5), 1);
        desk.fails(0, 1);
        due.refused("again with a way", Due.STATE, () -> desk.again(0, 1, 5));
        desk.back();
        due.same("again with the way taken back", desk.again(0, 1, 5), 1);
        desk.back();
        due.refused("again with the thing taken back", Due.MISSING, () -> desk.again(0, 1, 5));
    }

    private static void changesNothing(Due due) {
        StockDesk desk = busyDesk();
        desk.fails(5, 3);
        String before = Due.stateOf(desk);
        desk.again(0, 2, 5);
        due.refused("again of a failing part", Due.STATE, () -> desk.again(5, 1, 5));
        due.refused("again of nothing", Due.MISSING, () -> desk.again(0, 1, 5));
        due.refused("again of a wrong part", Due.RANGE, () -> desk.again(6, 1, 5));
        due.same("the desk", Due.stateOf(desk), before);
    }

    private static void wouldFail(Due due) {
        for (int way = 1; way <= 3; way++) {
            StockDesk desk = new StockDesk();
            desk.make(3);
            desk.fails(3, way);
            due.refused("again failing by way " + way, Due.STATE, () -> desk.again(3, 1, 0));
            due.same("nothing is told", desk.told(0), 0);
            due.same("no latest way", desk.told(1), 0);
            desk.fails(3, 0);
            due.same("again", desk.again(3, 1, 0), 1);
        }
    }

    private static void failuresAreDoneAgain(Due due) {
        StockDesk desk = new StockDesk();
        desk.make(0);
        desk.call(0, 1, 10);
        desk.fails(0, 2);
        due.refused("a failing call", Due.STATE, () -> desk.call(0, 1, 100));
        desk.fails(0, 0);
        due.same("again behind a failure", desk.again(0, 1, 0), 11);
        due.same("told stays", desk.told(0), 1);
    }

    private static void sixtyAreNotAsked(Due due) {
        StockDesk full = Due.fullDesk();
        due.same("again with sixty acts", full.again(0, 1, 4), 1);
        due.same("acts", full.count(0), 60);
    }

    private static void refuses(Due due) {
        StockDesk desk = new StockDesk();
        desk.make(0);
        for (int part : new int[] {-1, 6, Integer.MIN_VALUE, Integer.MAX_VALUE}) {
            due.refused("again of part " + part, Due.RANGE, () -> desk.again(part, 1, 0));
            due.refused("part before number " + part, Due.RANGE, () -> desk.again(part, 2, 0));
        }
        for (int a : new int[] {-1000001, 1000001, Integer.MIN_VALUE, Integer.MAX_VALUE}) {
            due.refused("again with " + a, Due.RANGE, () -> desk.again(0, 1, a));
            due.refused("argument before number " + a, Due.RANGE, () -> desk.again(0, 2, a));
        }
        for (int number : new int[] {-1, 0, 2, 9, 10, Integer.MIN_VALUE, Integer.MAX_VALUE}) {
            due.refused("again of number " + number, Due.MISSING, () -> desk.again(0, number, 0));
        }
        desk.fails(0, 1);
        due.refused("number before failing", Due.MISSING, () -> desk.again(0, 2, 0));
        due.refused("argument before failing", Due.RANGE, () -> desk.again(0, 1, 1000001));
    }
}

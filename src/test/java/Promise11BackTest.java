import java.util.ArrayList;
import java.util.List;
import java.util.function.Consumer;

/** Promise 11: back. */
public final class Promise11BackTest {
    public static void main(String[] args) {
        Due due = new Due("Promise 11: back");
        due.sentence("The latest act is taken back", Promise11BackTest::theLatest);
        due.sentence("all is as if it had not been (found by doing the others again)", Promise11BackTest::asIfNotBeen);
        due.sentence("how many are left.", Promise11BackTest::howManyLeft);
        due.sentence("IllegalStateException: there is none.", Promise11BackTest::thereIsNone);
        due.end();
    }

    private static void theLatest(Due due) {
        StockDesk desk = new StockDesk();
        desk.collect(5);
        desk.make(1);
        due.thrown("a refused make", Due.RANGE, () -> desk.make(5));
        due.thrown("a refused call", Due.MISSING, () -> desk.call(1, 2, 0));
        due.same("the make is the latest, not what was refused", desk.back(), 1);
        due.same("things there", desk.count(1), 0);
        due.same("bytes", desk.count(2), 1);
        desk.make(2);
        due.same("an act behind it is the latest then", desk.back(), 1);
        due.same("the byte is the latest at last", desk.back(), 0);
        due.same("bytes", desk.count(2), 0);
    }

    private static List<Consumer<StockDesk>> acts() {
        List<Consumer<StockDesk>> acts = new ArrayList<>();
        acts.add(desk -> desk.make(0));
        acts.add(desk -> desk.make(0));
        acts.add(desk -> desk.make(4));
        acts.add(desk -> desk.call(0, 2, 11));
        acts.add(desk -> desk.answers(0, 1000, 5));
        acts.add(desk -> desk.call(0, 2, -4));
        acts.add(desk -> desk.drop(0, 2));
        acts.add(desk -> desk.serves(2, 4));
        acts.add(desk -> desk.call(2, 1, 6));
        acts.add(desk -> desk.fails(2, 1));
        acts.add(desk -> Due.outcome(() -> desk.call(2, 1, 8)));
        acts.add(desk -> desk.fails(2, 3));
        acts.add(desk -> Due.outcome(() -> desk.call(2, 1, 8)));
        acts.add(desk -> desk.collect(77));
        acts.add(desk -> desk.fails(2, 0));
        acts.add(desk -> desk.call(2, 1, 8));
        acts.add(desk -> desk.collect(255));
        return acts;
    }

    private static StockDesk deskWith(int acts) {
        StockDesk desk = new StockDesk();
        acts().subList(0, acts).forEach(act -> act.accept(desk));
        return desk;
    }

    private static void asIfNotBeen(Due due) {
        int all = acts().size();
        for (int left = 0; left < all; left++) {
            String want = Look.whole(deskWith(left));
            StockDesk oneMore = deskWith(left + 1);
            oneMore.back();
            due.same("the desk with act " + left + " taken back", Look.whole(oneMore), want);
            StockDesk manyMore = deskWith(all);
            for (int i = all; i > left; i--) {
                manyMore.back();
            }
            due.same("the desk taken back to " + left, Look.whole(manyMore), want);
        }
        numbersAreFreeAgain(due);
        theFailureBeforeIsTheLatestAgain(due);
    }

    private static void numbersAreFreeAgain(Due due) {
        StockDesk desk = Desks.nineOf(3);
        desk.back();
        due.same("made", desk.numbers(3, 0), 8);
        due.same("the ninth once more", desk.make(3), 9);
        due.thrown("and no tenth", Due.ROOM, () -> desk.make(3));
        desk.call(3, 9, 0);
        desk.drop(3, 9);
        desk.back();
        due.same("uses of what is there again", desk.uses(3, 9), 1);
        desk.back();
        desk.back();
        due.same("the ninth as if new", desk.make(3), 9);
        due.same("its uses", desk.uses(3, 9), 0);
    }

    private static void theFailureBeforeIsTheLatestAgain(Due due) {
        StockDesk desk = Desks.thingsOf(0, 2);
        desk.fails(0, 1);
        desk.fails(5, 2);
        Due.outcome(() -> desk.call(0, 1, 0));
        Due.outcome(() -> desk.call(5, 2, 0));
        due.tells("two failures", desk, 2, 2, 5, 2);
        desk.back();
        due.tells("the second taken back", desk, 1, 1, 0, 1);
        desk.back();
        due.tells("the first taken back", desk, 0, 0, -1, -1);
    }

    private static void howManyLeft(Due due) {
        StockDesk desk = Desks.full();
        for (int left = 59; left >= 0; left--) {
            due.same("back", desk.back(), left);
            due.same("acts", desk.count(0), left);
        }
        StockDesk again = Desks.full();
        due.same("from sixty", again.back(), 59);
        due.same("one more act in its place", again.collect(3), 49);
        due.thrown("and no other", Due.ROOM, () -> again.collect(3));
        due.same("from sixty again", again.back(), 59);
    }

    private static void thereIsNone(Due due) {
        due.refused("on a new desk", Due.STATE, Desks::empty, desk -> desk.back());
        due.refused("behind the last", Due.STATE, Promise11BackTest::emptied, desk -> desk.back());
        due.same("a desk whose acts were all taken back", Look.whole(emptied()), Look.whole(Desks.empty()));
        StockDesk desk = emptied();
        due.thrown("none", Due.STATE, () -> desk.back());
        due.thrown("none still", Due.STATE, () -> desk.back());
        due.same("an act behind it", desk.make(0), 1);
        due.same("can be taken back", desk.back(), 0);
    }

    private static StockDesk emptied() {
        StockDesk desk = Desks.busy();
        for (int act = 0; act < Desks.BUSY_ACTS; act++) {
            desk.back();
        }
        return desk;
    }
}

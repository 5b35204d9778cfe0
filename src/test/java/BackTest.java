import java.util.ArrayList;
import java.util.List;

/** Promise 11: back. */
public final class BackTest {
    public static void main(String[] args) {
        Due due = new Due();
        everyActIsTakenBack(due);
        nothingLeft(due);
        sixtyAndOneMore(due);
        numbersAreFreeAgain(due);
        earlierFailureIsTheLatestAgain(due);
        refusedIsNotTakenBack(due);
        due.end();
    }

    private static List<Due.Deed> actsOf(StockDesk desk) {
        List<Due.Deed> acts = new ArrayList<>();
        acts.add(() -> desk.make(0));
        acts.add(() -> desk.make(0));
        acts.add(() -> desk.make(4));
        acts.add(() -> desk.call(0, 2, 11));
        acts.add(() -> desk.answers(0, 1000, 5));
        acts.add(() -> desk.call(0, 2, -4));
        acts.add(() -> desk.drop(0, 2));
        acts.add(() -> desk.serves(2, 4));
        acts.add(() -> desk.call(2, 1, 6));
        acts.add(() -> desk.fails(2, 1));
        acts.add(() -> Due.outcome(() -> desk.call(2, 1, 8)));
        acts.add(() -> desk.fails(2, 3));
        acts.add(() -> Due.outcome(() -> desk.call(2, 1, 8)));
        acts.add(() -> desk.collect(77));
        acts.add(() -> desk.fails(2, 0));
        acts.add(() -> desk.call(2, 1, 8));
        acts.add(() -> desk.collect(255));
        return acts;
    }

    private static StockDesk deskWith(int acts) {
        StockDesk desk = new StockDesk();
        for (Due.Deed act : actsOf(desk).subList(0, acts)) {
            act.run();
        }
        return desk;
    }

    /** Calls change the desk, so they come last; they alone show what its parts hold on this house. */
    private static String wholeAndCalls(StockDesk desk) {
        StringBuilder text = new StringBuilder(Due.wholeOf(desk));
        for (int part = 0; part < 6; part++) {
            int p = part;
            text.append(' ').append(Due.outcome(() -> desk.call(p, 1, 3)));
        }
        return text.toString();
    }

    /** A desk for each comparison: a look at the whole takes many of the 512 calls that are promised. */
    private static void everyActIsTakenBack(Due due) {
        int all = actsOf(new StockDesk()).size();
        due.same("acts", deskWith(all).count(0), all);
        for (int left = 0; left < all; left++) {
            String want = wholeAndCalls(deskWith(left));
            StockDesk oneMore = deskWith(left + 1);
            due.same("back", oneMore.back(), left);
            due.same("the desk with act " + left + " taken back", wholeAndCalls(oneMore), want);
            StockDesk manyMore = deskWith(all);
            for (int i = all - 1; i >= left; i--) {
                due.same("back", manyMore.back(), i);
            }
            due.same("the desk taken back to " + left, wholeAndCalls(manyMore), want);
        }
    }

    private static void nothingLeft(Due due) {
        StockDesk desk = new StockDesk();
        due.refused("back on a new desk", Due.STATE, () -> desk.back());
        desk.collect(1);
        due.same("back", desk.back(), 0);
        due.refused("back with none left", Due.STATE, () -> desk.back());
        due.same("acts", desk.count(0), 0);
        due.same("sums", desk.sums(), 1);
    }

    private static void sixtyAndOneMore(Due due) {
        StockDesk full = Due.fullDesk();
        due.same("back from sixty", full.back(), 59);
        due.same("bytes", full.count(2), 58);
        due.same("the sixtieth once more", full.collect(3), 59);
        due.refused("the sixty-first", Due.ROOM, () -> full.collect(3));
        for (int left = 59; left >= 0; left--) {
            due.same("back", full.back(), left);
        }
        due.refused("back with none left", Due.STATE, () -> full.back());
    }

    private static void numbersAreFreeAgain(Due due) {
        StockDesk desk = new StockDesk();
        for (int number = 1; number <= 9; number++) {
            desk.make(3);
        }
        desk.back();
        due.same("made", desk.numbers(3, 0), 8);
        due.same("the ninth once more", desk.make(3), 9);
        desk.call(3, 9, 0);
        desk.drop(3, 9);
        desk.back();
        due.same("uses of what is there again", desk.uses(3, 9), 1);
        desk.back();
        desk.back();
        due.same("the ninth as if new", desk.make(3), 9);
        due.same("its uses", desk.uses(3, 9), 0);
    }

    private static void earlierFailureIsTheLatestAgain(Due due) {
        StockDesk desk = new StockDesk();
        desk.make(0);
        desk.make(0);
        desk.fails(0, 1);
        desk.fails(5, 2);
        Due.outcome(() -> desk.call(0, 1, 0));
        Due.outcome(() -> desk.call(5, 2, 0));
        desk.back();
        due.same("told how many", desk.told(0), 1);
        due.same("told way", desk.told(1), 1);
        due.same("told part", desk.told(2), 0);
        due.same("told number", desk.told(3), 1);
        desk.back();
        due.same("told how many", desk.told(0), 0);
        due.same("told way", desk.told(1), 0);
        due.same("told part", desk.told(2), -1);
        due.same("told number", desk.told(3), -1);
    }

    private static void refusedIsNotTakenBack(Due due) {
        StockDesk desk = new StockDesk();
        desk.collect(5);
        desk.make(1);
        due.refused("a refused make", Due.RANGE, () -> desk.make(5));
        due.refused("a refused call", Due.MISSING, () -> desk.call(1, 2, 0));
        due.same("back takes the make", desk.back(), 1);
        due.same("things there", desk.count(1), 0);
        due.same("bytes", desk.count(2), 1);
    }
}

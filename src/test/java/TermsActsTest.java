import java.util.LinkedHashMap;
import java.util.Map;
import java.util.function.Consumer;

/** Terms: acts. */
public final class TermsActsTest {
    public static void main(String[] args) {
        Due due = new Due("Terms");
        due.sentence("ACTS are what was done and not refused, whether it changed something or not",
            TermsActsTest::withoutAChange);
        due.sentence("making, dropping, telling parts (kind, base and factor, ways), calls with a known number, collecting",
            TermsActsTest::whatIsAnAct);
        due.sentence("they are kept in a row, at most 60.", TermsActsTest::atMostSixty);
        due.sentence("What is refused is none.", TermsActsTest::refusedIsNone);
        due.end();
    }

    /** Every act, as it goes on the busy desk. */
    private static Map<String, Consumer<StockDesk>> acts() {
        Map<String, Consumer<StockDesk>> acts = new LinkedHashMap<>();
        acts.put("making", desk -> desk.make(1));
        acts.put("dropping", desk -> desk.drop(0, 2));
        acts.put("telling a kind", desk -> desk.serves(2, 3));
        acts.put("telling base and factor", desk -> desk.answers(2, 3, 4));
        acts.put("telling a way", desk -> desk.fails(2, 3));
        acts.put("a call", desk -> desk.call(0, 2, 1));
        acts.put("a call that fails", desk -> Due.outcome(() -> desk.call(5, 2, 1)));
        acts.put("collecting", desk -> desk.collect(3));
        return acts;
    }

    private static void withoutAChange(Due due) {
        StockDesk desk = Desks.oneOfEach();
        desk.serves(0, 0);
        due.same("the kind that it served", desk.count(0), 6);
        desk.answers(0, 0, 0);
        due.same("the base and factor that it had", desk.count(0), 7);
        desk.fails(0, 0);
        due.same("the way that it had", desk.count(0), 8);
        desk.collect(0);
        due.same("a byte of 0", desk.count(0), 9);
        desk.call(0, 1, 0);
        due.same("a call with 0", desk.count(0), 10);
        for (int left = 9; left >= 5; left--) {
            due.same("back", desk.back(), left);
        }
        due.same("things there", desk.count(1), 5);
    }

    private static void whatIsAnAct(Due due) {
        acts().forEach((name, act) -> {
            StockDesk desk = Desks.busy();
            act.accept(desk);
            due.same(name, desk.count(0), Desks.BUSY_ACTS + 1);
            due.same(name + ", taken back", desk.back(), Desks.BUSY_ACTS);
            due.same("the desk behind both", Look.whole(desk), Look.whole(Desks.busy()));
        });
        StockDesk desk = Desks.busy();
        Look.state(desk);
        desk.again(0, 2, 1);
        due.same("looking is none", desk.count(0), Desks.BUSY_ACTS);
    }

    private static void atMostSixty(Due due) {
        acts().forEach((name, act) -> {
            StockDesk desk = Desks.busyTo(59);
            act.accept(desk);
            due.same(name + " as the sixtieth", desk.count(0), 60);
            due.thrown("the sixty-first behind it", Due.ROOM, () -> desk.collect(0));
        });
        acts().forEach((name, act) -> {
            if (!name.equals("a call that fails")) {
                due.refused(name + " as the sixty-first", Due.ROOM, Desks::full, act);
            }
        });
        due.refused("a failing call as the sixty-first", Due.ROOM, Desks::full, desk -> desk.call(5, 2, 1));
        StockDesk desk = Desks.full();
        due.same("one taken back", desk.back(), 59);
        desk.make(2);
        due.same("one more in its place", desk.count(0), 60);
        due.thrown("and no other", Due.ROOM, () -> desk.make(2));
    }

    private static void refusedIsNone(Due due) {
        noneOfEachRefusal(due);
        StockDesk desk = new StockDesk();
        for (int i = 0; i < 61; i++) {
            due.thrown("a wrong kind", Due.RANGE, () -> desk.make(5));
            due.thrown("a thing that is not there", Due.MISSING, () -> desk.call(0, 1, 0));
        }
        due.same("acts behind 122 refusals", desk.count(0), 0);
        due.thrown("nothing to take back", Due.STATE, () -> desk.back());
        for (int act = 1; act <= 60; act++) {
            due.same("there is room for all sixty", desk.collect(1), act);
        }
        due.thrown("the sixty-first", Due.ROOM, () -> desk.collect(1));
        due.same("acts behind it", desk.count(0), 60);
        due.same("what is taken back is the sixtieth", desk.back(), 59);
        due.same("bytes", desk.count(2), 59);
    }

    private static void noneOfEachRefusal(Due due) {
        Map<String, Consumer<StockDesk>> refused = new LinkedHashMap<>();
        refused.put("a tenth thing", desk -> desk.make(2));
        refused.put("a thing of no kind", desk -> desk.make(-1));
        refused.put("a drop of nothing", desk -> desk.drop(2, 10));
        refused.put("a drop of no kind", desk -> desk.drop(5, 1));
        refused.put("a kind of no part", desk -> desk.serves(6, 0));
        refused.put("no kind", desk -> desk.serves(0, 5));
        refused.put("an answer of no part", desk -> desk.answers(-1, 0, 0));
        refused.put("a base too great", desk -> desk.answers(0, 1000001, 0));
        refused.put("a factor too small", desk -> desk.answers(0, 0, -1000001));
        refused.put("a way of no part", desk -> desk.fails(6, 1));
        refused.put("no way", desk -> desk.fails(0, 4));
        refused.put("a call of no part", desk -> desk.call(-1, 1, 0));
        refused.put("a call with too much", desk -> desk.call(2, 1, 1000001));
        refused.put("a call of nothing", desk -> desk.call(2, 10, 0));
        refused.put("no byte", desk -> desk.collect(256));
        StockDesk desk = Desks.nineOf(2);
        refused.forEach((name, call) -> {
            Due.outcome(() -> {
                call.accept(desk);
                return 0;
            });
            due.same(name, desk.count(0), 9);
        });
        due.same("the ninth thing is taken back, not a refusal", desk.back(), 8);
        due.same("things made", desk.numbers(2, 0), 8);
    }
}

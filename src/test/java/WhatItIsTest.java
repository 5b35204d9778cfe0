/** What it is: the number of calls that an object is promised for. */
public final class WhatItIsTest {
    public static void main(String[] args) {
        Due due = new Due("What it is");
        due.sentence("An object is used for at most 512 calls after it has been made", WhatItIsTest::fiveHundredAndTwelve);
        due.end();
    }

    private static void fiveHundredAndTwelve(Due due) {
        StockDesk desk = Desks.full();
        for (int call = 61; call <= 508; call += 2) {
            due.same("back", desk.back(), 59);
            due.same("collect", desk.collect(59), 49);
        }
        due.same("call 509", desk.count(0), 60);
        due.same("call 510", desk.again(0, 2, 5), 68);
        due.same("call 511", desk.back(), 59);
        due.same("call 512", desk.call(0, 2, 5), 68);
        StockDesk refused = new StockDesk();
        for (int call = 1; call <= 511; call++) {
            due.thrown("a refused call", Due.STATE, () -> refused.back());
        }
        due.same("call 512", refused.make(0), 1);
    }
}

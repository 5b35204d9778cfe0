/** Terms: collected bytes and their sums. */
public final class TermsCollectedTest {
    public static void main(String[] args) {
        Due due = new Due("Terms");
        due.sentence("COLLECTED are bytes (0 .. 255) with their SUMS", TermsCollectedTest::bytes);
        due.sentence("one is 1 at first and becomes (one + byte) modulo 65521 with each byte", TermsCollectedTest::one);
        due.sentence("two (0 at first) becomes (two + one) modulo 65521 then.", TermsCollectedTest::two);
        due.end();
    }

    private static long oneOf(StockDesk desk) {
        return desk.sums() % 65536;
    }

    private static long twoOf(StockDesk desk) {
        return desk.sums() / 65536;
    }

    private static void bytes(Due due) {
        StockDesk desk = new StockDesk();
        due.same("the least", desk.collect(0), 1);
        due.same("the greatest", desk.collect(255), 2);
        due.same("their sums", desk.sums(), (1 + 256) * 65536L + 256);
        due.refusedOutside(0, 255, "collect", Desks::busy, (d, b) -> d.collect(b));
        due.refusedOutside(0, 255, "collect on an empty desk", Desks::empty, (d, b) -> d.collect(b));
    }

    /** Sixty acts keep one at 15301 or below, so that its modulus is never passed: it must not be cut either. */
    private static void one(Due due) {
        StockDesk desk = new StockDesk();
        due.same("one at first", oneOf(desk), 1);
        desk.collect(0);
        due.same("one with a byte of 0", oneOf(desk), 1);
        for (int bytes = 1; bytes <= 59; bytes++) {
            desk.collect(255);
            due.same("one with bytes of 255", oneOf(desk), 1 + 255 * bytes);
        }
        desk.back();
        desk.collect(254);
        due.same("one with a last byte of 254", oneOf(desk), 255 * 59);
        desk.back();
        desk.collect(0);
        due.same("one with a last byte of 0", oneOf(desk), 1 + 255 * 58);
        due.same("the greatest one", oneOf(Desks.bytesOf(255, 58, 255)), 15301);
    }

    private static void two(Due due) {
        StockDesk desk = new StockDesk();
        due.same("two at first", twoOf(desk), 0);
        desk.collect(0);
        due.same("two takes one as it is then", twoOf(desk), 1);
        desk.collect(9);
        due.same("two with the new one", twoOf(desk), 11);
        due.same("one below the modulus", twoOf(nearModulus(248)), 65520);
        due.same("at the modulus", twoOf(nearModulus(249)), 0);
        due.same("one above the modulus", twoOf(nearModulus(250)), 1);
        due.same("one's sum at the modulus", oneOf(nearModulus(249)), 5648);
        StockDesk behind = nearModulus(249);
        behind.collect(0);
        due.same("behind the modulus", twoOf(behind), 5648);
        sevenTimes(due);
    }

    /** Twenty-three bytes with which two would be 65272 + last. */
    private static StockDesk nearModulus(int last) {
        return Desks.bytesOf(43, 21, last);
    }

    /** Sixty bytes of 255 would make two 466710, seven times 65521 and 8063. */
    private static void sevenTimes(Due due) {
        StockDesk desk = new StockDesk();
        long plain = 0;
        for (int bytes = 1; bytes <= 60; bytes++) {
            desk.collect(255);
            plain += 1 + 255 * bytes;
            due.same("two of " + bytes + " bytes", twoOf(desk), plain % 65521);
        }
        due.same("two of sixty bytes", twoOf(desk), 8063);
    }
}

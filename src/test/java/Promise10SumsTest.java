/** Promise 10: sums. */
public final class Promise10SumsTest {
    public static void main(String[] args) {
        Due due = new Due("Promise 10: sums");
        due.sentence("The sums of what is collected, as two * 65536 + one.", Promise10SumsTest::bothSums);
        due.end();
    }

    private static void bothSums(Due due) {
        due.same("nothing collected", new StockDesk().sums(), 1);
        due.same("other acts alone", Desks.oneOfEach().sums(), 1);
        StockDesk word = new StockDesk();
        for (char c : "Wikipedia".toCharArray()) {
            word.collect(c);
        }
        due.same("the checksum of a word", word.sums(), 0x11E60398L);
        due.same("as often as it is asked", word.sums(), 0x11E60398L);
        beyondAnInt(due);
        modulusPassed(due);
    }

    /** From 32768 on, two times 65536 is beyond an int. */
    private static void beyondAnInt(Due due) {
        due.same("two of 32767", Desks.bytesOf(140, 14, 166).sums(), 32767 * 65536L + 3877);
        due.same("two of 32768", Desks.bytesOf(140, 14, 167).sums(), 32768 * 65536L + 3878);
    }

    private static void modulusPassed(Due due) {
        StockDesk desk = new StockDesk();
        for (int bytes = 1; bytes <= 60; bytes++) {
            desk.collect(255);
            if (bytes == 22) {
                due.same("before two passes 65521", desk.sums(), 64537 * 65536L + 5611);
            }
            if (bytes == 23) {
                due.same("behind it", desk.sums(), 4882 * 65536L + 5866);
            }
        }
        due.same("sixty bytes", desk.sums(), 8063 * 65536L + 15301);
        due.thrown("one more", Due.ROOM, () -> desk.collect(255));
        due.same("it is not in the sums", desk.sums(), 8063 * 65536L + 15301);
        desk.back();
        due.same("one taken back", desk.sums(), (466710 - 15301) % 65521 * 65536L + 15046);
    }
}

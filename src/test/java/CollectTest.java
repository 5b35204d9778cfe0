/** Promises 9 collect, 10 sums. */
public final class CollectTest {
    public static void main(String[] args) {
        Due due = new Due();
        collectCounts(due);
        collectRefuses(due);
        sumsOfKnownBytes(due);
        sumsOfSixtyBytes(due);
        due.end();
    }

    private static void collectCounts(Due due) {
        StockDesk desk = new StockDesk();
        for (int i = 1; i <= 60; i++) {
            due.same("collect", desk.collect(i % 2 == 0 ? 0 : 255), i);
            due.same("bytes", desk.count(2), i);
            due.same("acts", desk.count(0), i);
        }
        long before = desk.sums();
        due.refused("the sixty-first", Due.ROOM, () -> desk.collect(0));
        due.refused("a wrong byte as sixty-first", Due.RANGE, () -> desk.collect(256));
        due.same("sums stay", desk.sums(), before);
    }

    private static void collectRefuses(Due due) {
        StockDesk desk = new StockDesk();
        for (int b : new int[] {-1, 256, Integer.MIN_VALUE, Integer.MAX_VALUE}) {
            due.refused("collect " + b, Due.RANGE, () -> desk.collect(b));
        }
        due.same("bytes", desk.count(2), 0);
        due.same("acts", desk.count(0), 0);
        due.same("sums", desk.sums(), 1);
    }

    private static void sumsOfKnownBytes(Due due) {
        StockDesk desk = new StockDesk();
        desk.collect(0);
        due.same("sums of 0", desk.sums(), 65537);
        StockDesk word = new StockDesk();
        for (char c : "Wikipedia".toCharArray()) {
            word.collect(c);
        }
        due.same("sums of a word", word.sums(), 0x11E60398L);
    }

    /** Sixty bytes of 255 are what takes the second sum past its modulus. */
    private static void sumsOfSixtyBytes(Due due) {
        StockDesk desk = new StockDesk();
        long two = 0;
        for (int i = 1; i <= 60; i++) {
            desk.collect(255);
            two += 1 + 255L * i;
            due.same("sums of " + i, desk.sums(), two % 65521 * 65536 + 1 + 255L * i);
        }
        due.same("the second sum passed its modulus", two > 65521 ? 1 : 0, 1);
    }
}
